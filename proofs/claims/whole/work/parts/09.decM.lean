theorem dMo_init_0 : decode mMo_init.2.1 0 = .ok (.aload_n 0, 1) := by decide +kernel
theorem dMo_init_1 : decode mMo_init.2.1 1 = .ok (.invokespecial 1, 3) := by decide +kernel
theorem dMo_init_4 : decode mMo_init.2.1 4 = .ok (.aload_n 0, 1) := by decide +kernel
theorem dMo_init_5 : decode mMo_init.2.1 5 = .ok (.bipush 70, 2) := by decide +kernel
theorem dMo_init_7 : decode mMo_init.2.1 7 = .ok (.newarray .int, 2) := by decide +kernel
theorem dMo_init_9 : decode mMo_init.2.1 9 = .ok (.putfield 7, 3) := by decide +kernel
theorem dMo_init_12 : decode mMo_init.2.1 12 = .ok (.aload_n 0, 1) := by decide +kernel
theorem dMo_init_13 : decode mMo_init.2.1 13 = .ok (.bipush 70, 2) := by decide +kernel
theorem dMo_init_15 : decode mMo_init.2.1 15 = .ok (.newarray .int, 2) := by decide +kernel
theorem dMo_init_17 : decode mMo_init.2.1 17 = .ok (.putfield 13, 3) := by decide +kernel
theorem dMo_init_20 : decode mMo_init.2.1 20 = .ok (.aload_n 0, 1) := by decide +kernel
theorem dMo_init_21 : decode mMo_init.2.1 21 = .ok (.sipush 5670, 3) := by decide +kernel
theorem dMo_init_24 : decode mMo_init.2.1 24 = .ok (.newarray .int, 2) := by decide +kernel
theorem dMo_init_26 : decode mMo_init.2.1 26 = .ok (.putfield 16, 3) := by decide +kernel
theorem dMo_init_29 : decode mMo_init.2.1 29 = .ok (.aload_n 0, 1) := by decide +kernel
theorem dMo_init_30 : decode mMo_init.2.1 30 = .ok (.sipush 5670, 3) := by decide +kernel
theorem dMo_init_33 : decode mMo_init.2.1 33 = .ok (.newarray .long, 2) := by decide +kernel
theorem dMo_init_35 : decode mMo_init.2.1 35 = .ok (.putfield 19, 3) := by decide +kernel
theorem dMo_init_38 : decode mMo_init.2.1 38 = .ok (.aload_n 0, 1) := by decide +kernel
theorem dMo_init_39 : decode mMo_init.2.1 39 = .ok (.bipush 70, 2) := by decide +kernel
theorem dMo_init_41 : decode mMo_init.2.1 41 = .ok (.newarray .long, 2) := by decide +kernel
theorem dMo_init_43 : decode mMo_init.2.1 43 = .ok (.putfield 23, 3) := by decide +kernel
theorem dMo_init_46 : decode mMo_init.2.1 46 = .ok (.aload_n 0, 1) := by decide +kernel
theorem dMo_init_47 : decode mMo_init.2.1 47 = .ok (.bipush 70, 2) := by decide +kernel
theorem dMo_init_49 : decode mMo_init.2.1 49 = .ok (.newarray .boolean, 2) := by decide +kernel
theorem dMo_init_51 : decode mMo_init.2.1 51 = .ok (.putfield 26, 3) := by decide +kernel
theorem dMo_init_54 : decode mMo_init.2.1 54 = .ok (.aload_n 0, 1) := by decide +kernel
theorem dMo_init_55 : decode mMo_init.2.1 55 = .ok (.bipush 70, 2) := by decide +kernel
theorem dMo_init_57 : decode mMo_init.2.1 57 = .ok (.newarray .int, 2) := by decide +kernel
theorem dMo_init_59 : decode mMo_init.2.1 59 = .ok (.putfield 30, 3) := by decide +kernel
theorem dMo_init_62 : decode mMo_init.2.1 62 = .ok (.aload_n 0, 1) := by decide +kernel
theorem dMo_init_63 : decode mMo_init.2.1 63 = .ok (.bipush 70, 2) := by decide +kernel
theorem dMo_init_65 : decode mMo_init.2.1 65 = .ok (.newarray .int, 2) := by decide +kernel
theorem dMo_init_67 : decode mMo_init.2.1 67 = .ok (.putfield 33, 3) := by decide +kernel
theorem dMo_init_70 : decode mMo_init.2.1 70 = .ok (.aload_n 0, 1) := by decide +kernel
theorem dMo_init_71 : decode mMo_init.2.1 71 = .ok (.bipush 70, 2) := by decide +kernel
theorem dMo_init_73 : decode mMo_init.2.1 73 = .ok (.newarray .int, 2) := by decide +kernel
theorem dMo_init_75 : decode mMo_init.2.1 75 = .ok (.putfield 36, 3) := by decide +kernel
theorem dMo_init_78 : decode mMo_init.2.1 78 = .ok (.aload_n 0, 1) := by decide +kernel
theorem dMo_init_79 : decode mMo_init.2.1 79 = .ok (.bipush 70, 2) := by decide +kernel
theorem dMo_init_81 : decode mMo_init.2.1 81 = .ok (.newarray .long, 2) := by decide +kernel
theorem dMo_init_83 : decode mMo_init.2.1 83 = .ok (.putfield 39, 3) := by decide +kernel
theorem dMo_init_86 : decode mMo_init.2.1 86 = .ok (.aload_n 0, 1) := by decide +kernel
theorem dMo_init_87 : decode mMo_init.2.1 87 = .ok (.sipush 170, 3) := by decide +kernel
theorem dMo_init_90 : decode mMo_init.2.1 90 = .ok (.newarray .int, 2) := by decide +kernel
theorem dMo_init_92 : decode mMo_init.2.1 92 = .ok (.putfield 42, 3) := by decide +kernel
theorem dMo_init_95 : decode mMo_init.2.1 95 = .ok (.aload_n 0, 1) := by decide +kernel
theorem dMo_init_96 : decode mMo_init.2.1 96 = .ok (.sipush 170, 3) := by decide +kernel
theorem dMo_init_99 : decode mMo_init.2.1 99 = .ok (.newarray .long, 2) := by decide +kernel
theorem dMo_init_101 : decode mMo_init.2.1 101 = .ok (.putfield 45, 3) := by decide +kernel
theorem dMo_init_104 : decode mMo_init.2.1 104 = .ok (.aload_n 0, 1) := by decide +kernel
theorem dMo_init_105 : decode mMo_init.2.1 105 = .ok (.sipush 400, 3) := by decide +kernel
theorem dMo_init_108 : decode mMo_init.2.1 108 = .ok (.newarray .int, 2) := by decide +kernel
theorem dMo_init_110 : decode mMo_init.2.1 110 = .ok (.putfield 48, 3) := by decide +kernel
theorem dMo_init_113 : decode mMo_init.2.1 113 = .ok (.aload_n 0, 1) := by decide +kernel
theorem dMo_init_114 : decode mMo_init.2.1 114 = .ok (.bipush 40, 2) := by decide +kernel
theorem dMo_init_116 : decode mMo_init.2.1 116 = .ok (.newarray .int, 2) := by decide +kernel
theorem dMo_init_118 : decode mMo_init.2.1 118 = .ok (.putfield 51, 3) := by decide +kernel
theorem dMo_init_121 : decode mMo_init.2.1 121 = .ok (.aload_n 0, 1) := by decide +kernel
theorem dMo_init_122 : decode mMo_init.2.1 122 = .ok (.bipush 40, 2) := by decide +kernel
theorem dMo_init_124 : decode mMo_init.2.1 124 = .ok (.newarray .int, 2) := by decide +kernel
theorem dMo_init_126 : decode mMo_init.2.1 126 = .ok (.putfield 54, 3) := by decide +kernel
theorem dMo_init_129 : decode mMo_init.2.1 129 = .ok (.aload_n 0, 1) := by decide +kernel
theorem dMo_init_130 : decode mMo_init.2.1 130 = .ok (.bipush 40, 2) := by decide +kernel
theorem dMo_init_132 : decode mMo_init.2.1 132 = .ok (.newarray .int, 2) := by decide +kernel
theorem dMo_init_134 : decode mMo_init.2.1 134 = .ok (.putfield 57, 3) := by decide +kernel
theorem dMo_init_137 : decode mMo_init.2.1 137 = .ok (.aload_n 0, 1) := by decide +kernel
theorem dMo_init_138 : decode mMo_init.2.1 138 = .ok (.bipush 40, 2) := by decide +kernel
theorem dMo_init_140 : decode mMo_init.2.1 140 = .ok (.newarray .int, 2) := by decide +kernel
theorem dMo_init_142 : decode mMo_init.2.1 142 = .ok (.putfield 60, 3) := by decide +kernel
theorem dMo_init_145 : decode mMo_init.2.1 145 = .ok (.aload_n 0, 1) := by decide +kernel
theorem dMo_init_146 : decode mMo_init.2.1 146 = .ok (.bipush 40, 2) := by decide +kernel
theorem dMo_init_148 : decode mMo_init.2.1 148 = .ok (.newarray .int, 2) := by decide +kernel
theorem dMo_init_150 : decode mMo_init.2.1 150 = .ok (.putfield 63, 3) := by decide +kernel
theorem dMo_init_153 : decode mMo_init.2.1 153 = .ok (.aload_n 0, 1) := by decide +kernel
theorem dMo_init_154 : decode mMo_init.2.1 154 = .ok (.bipush 40, 2) := by decide +kernel
theorem dMo_init_156 : decode mMo_init.2.1 156 = .ok (.newarray .int, 2) := by decide +kernel
theorem dMo_init_158 : decode mMo_init.2.1 158 = .ok (.putfield 66, 3) := by decide +kernel
theorem dMo_init_161 : decode mMo_init.2.1 161 = .ok (.aload_n 0, 1) := by decide +kernel
theorem dMo_init_162 : decode mMo_init.2.1 162 = .ok (.bipush 40, 2) := by decide +kernel
theorem dMo_init_164 : decode mMo_init.2.1 164 = .ok (.newarray .int, 2) := by decide +kernel
theorem dMo_init_166 : decode mMo_init.2.1 166 = .ok (.putfield 69, 3) := by decide +kernel
theorem dMo_init_169 : decode mMo_init.2.1 169 = .ok (.aload_n 0, 1) := by decide +kernel
theorem dMo_init_170 : decode mMo_init.2.1 170 = .ok (.bipush 40, 2) := by decide +kernel
theorem dMo_init_172 : decode mMo_init.2.1 172 = .ok (.newarray .int, 2) := by decide +kernel
theorem dMo_init_174 : decode mMo_init.2.1 174 = .ok (.putfield 72, 3) := by decide +kernel
theorem dMo_init_177 : decode mMo_init.2.1 177 = .ok (.aload_n 0, 1) := by decide +kernel
theorem dMo_init_178 : decode mMo_init.2.1 178 = .ok (.bipush 10, 2) := by decide +kernel
theorem dMo_init_180 : decode mMo_init.2.1 180 = .ok (.newarray .int, 2) := by decide +kernel
theorem dMo_init_182 : decode mMo_init.2.1 182 = .ok (.putfield 75, 3) := by decide +kernel
theorem dMo_init_185 : decode mMo_init.2.1 185 = .ok (.aload_n 0, 1) := by decide +kernel
theorem dMo_init_186 : decode mMo_init.2.1 186 = .ok (.bipush 100, 2) := by decide +kernel
theorem dMo_init_188 : decode mMo_init.2.1 188 = .ok (.newarray .int, 2) := by decide +kernel
theorem dMo_init_190 : decode mMo_init.2.1 190 = .ok (.putfield 78, 3) := by decide +kernel
theorem dMo_init_193 : decode mMo_init.2.1 193 = .ok (.aload_n 0, 1) := by decide +kernel
theorem dMo_init_194 : decode mMo_init.2.1 194 = .ok (.bipush 100, 2) := by decide +kernel
theorem dMo_init_196 : decode mMo_init.2.1 196 = .ok (.newarray .int, 2) := by decide +kernel
theorem dMo_init_198 : decode mMo_init.2.1 198 = .ok (.putfield 81, 3) := by decide +kernel
theorem dMo_init_201 : decode mMo_init.2.1 201 = .ok (.aload_n 0, 1) := by decide +kernel
theorem dMo_init_202 : decode mMo_init.2.1 202 = .ok (.bipush 100, 2) := by decide +kernel
theorem dMo_init_204 : decode mMo_init.2.1 204 = .ok (.newarray .long, 2) := by decide +kernel
theorem dMo_init_206 : decode mMo_init.2.1 206 = .ok (.putfield 84, 3) := by decide +kernel
theorem dMo_init_209 : decode mMo_init.2.1 209 = .ok (.aload_n 0, 1) := by decide +kernel
theorem dMo_init_210 : decode mMo_init.2.1 210 = .ok (.sipush 1300, 3) := by decide +kernel
theorem dMo_init_213 : decode mMo_init.2.1 213 = .ok (.newarray .int, 2) := by decide +kernel
theorem dMo_init_215 : decode mMo_init.2.1 215 = .ok (.putfield 87, 3) := by decide +kernel
theorem dMo_init_218 : decode mMo_init.2.1 218 = .ok (.return_, 1) := by decide +kernel
theorem dMo_haul_0 : decode mMo_haul.2.1 0 = .ok (.lload_n 1, 1) := by decide +kernel
theorem dMo_haul_1 : decode mMo_haul.2.1 1 = .ok (.lconst 1, 1) := by decide +kernel
theorem dMo_haul_2 : decode mMo_haul.2.1 2 = .ok (.lcmp, 1) := by decide +kernel
theorem dMo_haul_3 : decode mMo_haul.2.1 3 = .ok (.ifCond .lt 43, 3) := by decide +kernel
theorem dMo_haul_6 : decode mMo_haul.2.1 6 = .ok (.lload_n 1, 1) := by decide +kernel
theorem dMo_haul_7 : decode mMo_haul.2.1 7 = .ok (.ldc2_w 98, 3) := by decide +kernel
theorem dMo_haul_10 : decode mMo_haul.2.1 10 = .ok (.lcmp, 1) := by decide +kernel
theorem dMo_haul_11 : decode mMo_haul.2.1 11 = .ok (.ifCond .gt 35, 3) := by decide +kernel
theorem dMo_haul_14 : decode mMo_haul.2.1 14 = .ok (.iload_n 3, 1) := by decide +kernel
theorem dMo_haul_15 : decode mMo_haul.2.1 15 = .ok (.ifCond .lt 31, 3) := by decide +kernel
theorem dMo_haul_18 : decode mMo_haul.2.1 18 = .ok (.iload_n 3, 1) := by decide +kernel
theorem dMo_haul_19 : decode mMo_haul.2.1 19 = .ok (.sipush 999, 3) := by decide +kernel
theorem dMo_haul_22 : decode mMo_haul.2.1 22 = .ok (.if_icmp .gt 24, 3) := by decide +kernel
theorem dMo_haul_25 : decode mMo_haul.2.1 25 = .ok (.iload 4, 2) := by decide +kernel
theorem dMo_haul_27 : decode mMo_haul.2.1 27 = .ok (.ifCond .lt 19, 3) := by decide +kernel
theorem dMo_haul_30 : decode mMo_haul.2.1 30 = .ok (.iload 4, 2) := by decide +kernel
theorem dMo_haul_32 : decode mMo_haul.2.1 32 = .ok (.ldc 100, 2) := by decide +kernel
theorem dMo_haul_34 : decode mMo_haul.2.1 34 = .ok (.if_icmp .gt 12, 3) := by decide +kernel
theorem dMo_haul_37 : decode mMo_haul.2.1 37 = .ok (.aload_n 0, 1) := by decide +kernel
theorem dMo_haul_38 : decode mMo_haul.2.1 38 = .ok (.getfield 90, 3) := by decide +kernel
theorem dMo_haul_41 : decode mMo_haul.2.1 41 = .ok (.bipush 70, 2) := by decide +kernel
theorem dMo_haul_43 : decode mMo_haul.2.1 43 = .ok (.if_icmp .ne 5, 3) := by decide +kernel
theorem dMo_haul_46 : decode mMo_haul.2.1 46 = .ok (.iconst (-1), 1) := by decide +kernel
theorem dMo_haul_47 : decode mMo_haul.2.1 47 = .ok (.ireturn, 1) := by decide +kernel
theorem dMo_haul_48 : decode mMo_haul.2.1 48 = .ok (.aload_n 0, 1) := by decide +kernel
theorem dMo_haul_49 : decode mMo_haul.2.1 49 = .ok (.iconst 1, 1) := by decide +kernel
theorem dMo_haul_50 : decode mMo_haul.2.1 50 = .ok (.iload_n 3, 1) := by decide +kernel
theorem dMo_haul_51 : decode mMo_haul.2.1 51 = .ok (.iload 4, 2) := by decide +kernel
theorem dMo_haul_53 : decode mMo_haul.2.1 53 = .ok (.lload_n 1, 1) := by decide +kernel
theorem dMo_haul_54 : decode mMo_haul.2.1 54 = .ok (.invokevirtual 101, 3) := by decide +kernel
theorem dMo_haul_57 : decode mMo_haul.2.1 57 = .ok (.istore 5, 2) := by decide +kernel
theorem dMo_haul_59 : decode mMo_haul.2.1 59 = .ok (.aload_n 0, 1) := by decide +kernel
theorem dMo_haul_60 : decode mMo_haul.2.1 60 = .ok (.getfield 13, 3) := by decide +kernel
theorem dMo_haul_63 : decode mMo_haul.2.1 63 = .ok (.iload 5, 2) := by decide +kernel
theorem dMo_haul_65 : decode mMo_haul.2.1 65 = .ok (.iconst 1, 1) := by decide +kernel
theorem dMo_haul_66 : decode mMo_haul.2.1 66 = .ok (.iastore, 1) := by decide +kernel
theorem dMo_haul_67 : decode mMo_haul.2.1 67 = .ok (.aload_n 0, 1) := by decide +kernel
theorem dMo_haul_68 : decode mMo_haul.2.1 68 = .ok (.getfield 16, 3) := by decide +kernel
theorem dMo_haul_71 : decode mMo_haul.2.1 71 = .ok (.bipush 81, 2) := by decide +kernel
theorem dMo_haul_73 : decode mMo_haul.2.1 73 = .ok (.iload 5, 2) := by decide +kernel
theorem dMo_haul_75 : decode mMo_haul.2.1 75 = .ok (.imul, 1) := by decide +kernel
theorem dMo_haul_76 : decode mMo_haul.2.1 76 = .ok (.iload 5, 2) := by decide +kernel
theorem dMo_haul_78 : decode mMo_haul.2.1 78 = .ok (.iastore, 1) := by decide +kernel
theorem dMo_haul_79 : decode mMo_haul.2.1 79 = .ok (.aload_n 0, 1) := by decide +kernel
theorem dMo_haul_80 : decode mMo_haul.2.1 80 = .ok (.getfield 19, 3) := by decide +kernel
theorem dMo_haul_83 : decode mMo_haul.2.1 83 = .ok (.bipush 81, 2) := by decide +kernel
theorem dMo_haul_85 : decode mMo_haul.2.1 85 = .ok (.iload 5, 2) := by decide +kernel
theorem dMo_haul_87 : decode mMo_haul.2.1 87 = .ok (.imul, 1) := by decide +kernel
theorem dMo_haul_88 : decode mMo_haul.2.1 88 = .ok (.lload_n 1, 1) := by decide +kernel
theorem dMo_haul_89 : decode mMo_haul.2.1 89 = .ok (.lastore, 1) := by decide +kernel
theorem dMo_haul_90 : decode mMo_haul.2.1 90 = .ok (.iload 5, 2) := by decide +kernel
theorem dMo_haul_92 : decode mMo_haul.2.1 92 = .ok (.ireturn, 1) := by decide +kernel
theorem dMo_make_0 : decode mMo_make.2.1 0 = .ok (.aload_n 0, 1) := by decide +kernel
theorem dMo_make_1 : decode mMo_make.2.1 1 = .ok (.getfield 90, 3) := by decide +kernel
theorem dMo_make_4 : decode mMo_make.2.1 4 = .ok (.istore 6, 2) := by decide +kernel
theorem dMo_make_6 : decode mMo_make.2.1 6 = .ok (.aload_n 0, 1) := by decide +kernel
theorem dMo_make_7 : decode mMo_make.2.1 7 = .ok (.dup, 1) := by decide +kernel
theorem dMo_make_8 : decode mMo_make.2.1 8 = .ok (.getfield 90, 3) := by decide +kernel
theorem dMo_make_11 : decode mMo_make.2.1 11 = .ok (.iconst 1, 1) := by decide +kernel
theorem dMo_make_12 : decode mMo_make.2.1 12 = .ok (.iadd, 1) := by decide +kernel
theorem dMo_make_13 : decode mMo_make.2.1 13 = .ok (.putfield 90, 3) := by decide +kernel
theorem dMo_make_16 : decode mMo_make.2.1 16 = .ok (.aload_n 0, 1) := by decide +kernel
theorem dMo_make_17 : decode mMo_make.2.1 17 = .ok (.getfield 7, 3) := by decide +kernel
theorem dMo_make_20 : decode mMo_make.2.1 20 = .ok (.iload 6, 2) := by decide +kernel
theorem dMo_make_22 : decode mMo_make.2.1 22 = .ok (.iload_n 1, 1) := by decide +kernel
theorem dMo_make_23 : decode mMo_make.2.1 23 = .ok (.iastore, 1) := by decide +kernel
theorem dMo_make_24 : decode mMo_make.2.1 24 = .ok (.aload_n 0, 1) := by decide +kernel
theorem dMo_make_25 : decode mMo_make.2.1 25 = .ok (.getfield 33, 3) := by decide +kernel
theorem dMo_make_28 : decode mMo_make.2.1 28 = .ok (.iload 6, 2) := by decide +kernel
theorem dMo_make_30 : decode mMo_make.2.1 30 = .ok (.iload_n 2, 1) := by decide +kernel
theorem dMo_make_31 : decode mMo_make.2.1 31 = .ok (.iastore, 1) := by decide +kernel
theorem dMo_make_32 : decode mMo_make.2.1 32 = .ok (.aload_n 0, 1) := by decide +kernel
theorem dMo_make_33 : decode mMo_make.2.1 33 = .ok (.getfield 36, 3) := by decide +kernel
theorem dMo_make_36 : decode mMo_make.2.1 36 = .ok (.iload 6, 2) := by decide +kernel
theorem dMo_make_38 : decode mMo_make.2.1 38 = .ok (.iload_n 3, 1) := by decide +kernel
theorem dMo_make_39 : decode mMo_make.2.1 39 = .ok (.iastore, 1) := by decide +kernel
theorem dMo_make_40 : decode mMo_make.2.1 40 = .ok (.aload_n 0, 1) := by decide +kernel
theorem dMo_make_41 : decode mMo_make.2.1 41 = .ok (.getfield 39, 3) := by decide +kernel
theorem dMo_make_44 : decode mMo_make.2.1 44 = .ok (.iload 6, 2) := by decide +kernel
theorem dMo_make_46 : decode mMo_make.2.1 46 = .ok (.lload 4, 2) := by decide +kernel
theorem dMo_make_48 : decode mMo_make.2.1 48 = .ok (.lastore, 1) := by decide +kernel
theorem dMo_make_49 : decode mMo_make.2.1 49 = .ok (.iload 6, 2) := by decide +kernel
theorem dMo_make_51 : decode mMo_make.2.1 51 = .ok (.ireturn, 1) := by decide +kernel
theorem dMo_batch_0 : decode mMo_batch.2.1 0 = .ok (.aload_n 0, 1) := by decide +kernel
theorem dMo_batch_1 : decode mMo_batch.2.1 1 = .ok (.getfield 90, 3) := by decide +kernel
theorem dMo_batch_4 : decode mMo_batch.2.1 4 = .ok (.bipush 70, 2) := by decide +kernel
theorem dMo_batch_6 : decode mMo_batch.2.1 6 = .ok (.if_icmp .ne 7, 3) := by decide +kernel
theorem dMo_batch_9 : decode mMo_batch.2.1 9 = .ok (.iconst (-1), 1) := by decide +kernel
theorem dMo_batch_10 : decode mMo_batch.2.1 10 = .ok (.goto 11, 3) := by decide +kernel
theorem dMo_batch_13 : decode mMo_batch.2.1 13 = .ok (.aload_n 0, 1) := by decide +kernel
theorem dMo_batch_14 : decode mMo_batch.2.1 14 = .ok (.iconst 2, 1) := by decide +kernel
theorem dMo_batch_15 : decode mMo_batch.2.1 15 = .ok (.iconst 0, 1) := by decide +kernel
theorem dMo_batch_16 : decode mMo_batch.2.1 16 = .ok (.iconst 0, 1) := by decide +kernel
theorem dMo_batch_17 : decode mMo_batch.2.1 17 = .ok (.lconst 0, 1) := by decide +kernel
theorem dMo_batch_18 : decode mMo_batch.2.1 18 = .ok (.invokevirtual 101, 3) := by decide +kernel
theorem dMo_batch_21 : decode mMo_batch.2.1 21 = .ok (.ireturn, 1) := by decide +kernel
theorem dMo_into_0 : decode mMo_into.2.1 0 = .ok (.aload_n 0, 1) := by decide +kernel
theorem dMo_into_1 : decode mMo_into.2.1 1 = .ok (.iload_n 1, 1) := by decide +kernel
theorem dMo_into_2 : decode mMo_into.2.1 2 = .ok (.iconst 2, 1) := by decide +kernel
theorem dMo_into_3 : decode mMo_into.2.1 3 = .ok (.invokevirtual 116, 3) := by decide +kernel
theorem dMo_into_6 : decode mMo_into.2.1 6 = .ok (.ifCond .eq 43, 3) := by decide +kernel
theorem dMo_into_9 : decode mMo_into.2.1 9 = .ok (.aload_n 0, 1) := by decide +kernel
theorem dMo_into_10 : decode mMo_into.2.1 10 = .ok (.iload_n 2, 1) := by decide +kernel
theorem dMo_into_11 : decode mMo_into.2.1 11 = .ok (.invokevirtual 120, 3) := by decide +kernel
theorem dMo_into_14 : decode mMo_into.2.1 14 = .ok (.ifCond .eq 35, 3) := by decide +kernel
theorem dMo_into_17 : decode mMo_into.2.1 17 = .ok (.iload_n 1, 1) := by decide +kernel
theorem dMo_into_18 : decode mMo_into.2.1 18 = .ok (.iload_n 2, 1) := by decide +kernel
theorem dMo_into_19 : decode mMo_into.2.1 19 = .ok (.if_icmp .eq 30, 3) := by decide +kernel
theorem dMo_into_22 : decode mMo_into.2.1 22 = .ok (.aload_n 0, 1) := by decide +kernel
theorem dMo_into_23 : decode mMo_into.2.1 23 = .ok (.getfield 26, 3) := by decide +kernel
theorem dMo_into_26 : decode mMo_into.2.1 26 = .ok (.iload_n 1, 1) := by decide +kernel
theorem dMo_into_27 : decode mMo_into.2.1 27 = .ok (.baload, 1) := by decide +kernel
theorem dMo_into_28 : decode mMo_into.2.1 28 = .ok (.ifCond .ne 21, 3) := by decide +kernel
theorem dMo_into_31 : decode mMo_into.2.1 31 = .ok (.aload_n 0, 1) := by decide +kernel
theorem dMo_into_32 : decode mMo_into.2.1 32 = .ok (.getfield 26, 3) := by decide +kernel
theorem dMo_into_35 : decode mMo_into.2.1 35 = .ok (.iload_n 2, 1) := by decide +kernel
theorem dMo_into_36 : decode mMo_into.2.1 36 = .ok (.baload, 1) := by decide +kernel
theorem dMo_into_37 : decode mMo_into.2.1 37 = .ok (.ifCond .ne 12, 3) := by decide +kernel
theorem dMo_into_40 : decode mMo_into.2.1 40 = .ok (.aload_n 0, 1) := by decide +kernel
theorem dMo_into_41 : decode mMo_into.2.1 41 = .ok (.iload_n 2, 1) := by decide +kernel
theorem dMo_into_42 : decode mMo_into.2.1 42 = .ok (.lload_n 3, 1) := by decide +kernel
theorem dMo_into_43 : decode mMo_into.2.1 43 = .ok (.invokevirtual 123, 3) := by decide +kernel
theorem dMo_into_46 : decode mMo_into.2.1 46 = .ok (.ifCond .ne 5, 3) := by decide +kernel
theorem dMo_into_49 : decode mMo_into.2.1 49 = .ok (.iconst 0, 1) := by decide +kernel
theorem dMo_into_50 : decode mMo_into.2.1 50 = .ok (.ireturn, 1) := by decide +kernel
theorem dMo_into_51 : decode mMo_into.2.1 51 = .ok (.aload_n 0, 1) := by decide +kernel
theorem dMo_into_52 : decode mMo_into.2.1 52 = .ok (.iload_n 1, 1) := by decide +kernel
theorem dMo_into_53 : decode mMo_into.2.1 53 = .ok (.iload_n 2, 1) := by decide +kernel
theorem dMo_into_54 : decode mMo_into.2.1 54 = .ok (.lload_n 3, 1) := by decide +kernel
theorem dMo_into_55 : decode mMo_into.2.1 55 = .ok (.invokevirtual 127, 3) := by decide +kernel
theorem dMo_into_58 : decode mMo_into.2.1 58 = .ok (.aload_n 0, 1) := by decide +kernel
theorem dMo_into_59 : decode mMo_into.2.1 59 = .ok (.getfield 105, 3) := by decide +kernel
theorem dMo_into_62 : decode mMo_into.2.1 62 = .ok (.bipush 80, 2) := by decide +kernel
theorem dMo_into_64 : decode mMo_into.2.1 64 = .ok (.if_icmp .le 5, 3) := by decide +kernel
theorem dMo_into_67 : decode mMo_into.2.1 67 = .ok (.iconst 0, 1) := by decide +kernel
theorem dMo_into_68 : decode mMo_into.2.1 68 = .ok (.ireturn, 1) := by decide +kernel
theorem dMo_into_69 : decode mMo_into.2.1 69 = .ok (.aload_n 0, 1) := by decide +kernel
theorem dMo_into_70 : decode mMo_into.2.1 70 = .ok (.iload_n 1, 1) := by decide +kernel
theorem dMo_into_71 : decode mMo_into.2.1 71 = .ok (.invokevirtual 131, 3) := by decide +kernel
theorem dMo_into_74 : decode mMo_into.2.1 74 = .ok (.aload_n 0, 1) := by decide +kernel
theorem dMo_into_75 : decode mMo_into.2.1 75 = .ok (.iload_n 2, 1) := by decide +kernel
theorem dMo_into_76 : decode mMo_into.2.1 76 = .ok (.lload_n 3, 1) := by decide +kernel
theorem dMo_into_77 : decode mMo_into.2.1 77 = .ok (.invokevirtual 135, 3) := by decide +kernel
theorem dMo_into_80 : decode mMo_into.2.1 80 = .ok (.aload_n 0, 1) := by decide +kernel
theorem dMo_into_81 : decode mMo_into.2.1 81 = .ok (.getfield 30, 3) := by decide +kernel
theorem dMo_into_84 : decode mMo_into.2.1 84 = .ok (.iload_n 1, 1) := by decide +kernel
theorem dMo_into_85 : decode mMo_into.2.1 85 = .ok (.aload_n 0, 1) := by decide +kernel
theorem dMo_into_86 : decode mMo_into.2.1 86 = .ok (.getfield 30, 3) := by decide +kernel
theorem dMo_into_89 : decode mMo_into.2.1 89 = .ok (.iload_n 2, 1) := by decide +kernel
theorem dMo_into_90 : decode mMo_into.2.1 90 = .ok (.iaload, 1) := by decide +kernel
theorem dMo_into_91 : decode mMo_into.2.1 91 = .ok (.aload_n 0, 1) := by decide +kernel
theorem dMo_into_92 : decode mMo_into.2.1 92 = .ok (.getfield 30, 3) := by decide +kernel
theorem dMo_into_95 : decode mMo_into.2.1 95 = .ok (.iload_n 1, 1) := by decide +kernel
theorem dMo_into_96 : decode mMo_into.2.1 96 = .ok (.iaload, 1) := by decide +kernel
theorem dMo_into_97 : decode mMo_into.2.1 97 = .ok (.if_icmp .le 12, 3) := by decide +kernel
theorem dMo_into_100 : decode mMo_into.2.1 100 = .ok (.aload_n 0, 1) := by decide +kernel
theorem dMo_into_101 : decode mMo_into.2.1 101 = .ok (.getfield 30, 3) := by decide +kernel
theorem dMo_into_104 : decode mMo_into.2.1 104 = .ok (.iload_n 2, 1) := by decide +kernel
theorem dMo_into_105 : decode mMo_into.2.1 105 = .ok (.iaload, 1) := by decide +kernel
theorem dMo_into_106 : decode mMo_into.2.1 106 = .ok (.goto 9, 3) := by decide +kernel
theorem dMo_into_109 : decode mMo_into.2.1 109 = .ok (.aload_n 0, 1) := by decide +kernel
theorem dMo_into_110 : decode mMo_into.2.1 110 = .ok (.getfield 30, 3) := by decide +kernel
theorem dMo_into_113 : decode mMo_into.2.1 113 = .ok (.iload_n 1, 1) := by decide +kernel
theorem dMo_into_114 : decode mMo_into.2.1 114 = .ok (.iaload, 1) := by decide +kernel
theorem dMo_into_115 : decode mMo_into.2.1 115 = .ok (.iastore, 1) := by decide +kernel
theorem dMo_into_116 : decode mMo_into.2.1 116 = .ok (.iconst 1, 1) := by decide +kernel
theorem dMo_into_117 : decode mMo_into.2.1 117 = .ok (.ireturn, 1) := by decide +kernel
theorem dMo_isOf_0 : decode mMo_isOf.2.1 0 = .ok (.aload_n 0, 1) := by decide +kernel
theorem dMo_isOf_1 : decode mMo_isOf.2.1 1 = .ok (.iload_n 1, 1) := by decide +kernel
theorem dMo_isOf_2 : decode mMo_isOf.2.1 2 = .ok (.invokevirtual 94, 3) := by decide +kernel
theorem dMo_isOf_5 : decode mMo_isOf.2.1 5 = .ok (.ifCond .eq 17, 3) := by decide +kernel
theorem dMo_isOf_8 : decode mMo_isOf.2.1 8 = .ok (.aload_n 0, 1) := by decide +kernel
theorem dMo_isOf_9 : decode mMo_isOf.2.1 9 = .ok (.getfield 7, 3) := by decide +kernel
theorem dMo_isOf_12 : decode mMo_isOf.2.1 12 = .ok (.iload_n 1, 1) := by decide +kernel
theorem dMo_isOf_13 : decode mMo_isOf.2.1 13 = .ok (.iaload, 1) := by decide +kernel
theorem dMo_isOf_14 : decode mMo_isOf.2.1 14 = .ok (.iload_n 2, 1) := by decide +kernel
theorem dMo_isOf_15 : decode mMo_isOf.2.1 15 = .ok (.if_icmp .ne 7, 3) := by decide +kernel
theorem dMo_isOf_18 : decode mMo_isOf.2.1 18 = .ok (.iconst 1, 1) := by decide +kernel
theorem dMo_isOf_19 : decode mMo_isOf.2.1 19 = .ok (.goto 4, 3) := by decide +kernel
theorem dMo_isOf_22 : decode mMo_isOf.2.1 22 = .ok (.iconst 0, 1) := by decide +kernel
theorem dMo_isOf_23 : decode mMo_isOf.2.1 23 = .ok (.ireturn, 1) := by decide +kernel
theorem dMo_isThing_0 : decode mMo_isThing.2.1 0 = .ok (.iload_n 1, 1) := by decide +kernel
theorem dMo_isThing_1 : decode mMo_isThing.2.1 1 = .ok (.ifCond .lt 15, 3) := by decide +kernel
theorem dMo_isThing_4 : decode mMo_isThing.2.1 4 = .ok (.iload_n 1, 1) := by decide +kernel
theorem dMo_isThing_5 : decode mMo_isThing.2.1 5 = .ok (.aload_n 0, 1) := by decide +kernel
theorem dMo_isThing_6 : decode mMo_isThing.2.1 6 = .ok (.getfield 90, 3) := by decide +kernel
theorem dMo_isThing_9 : decode mMo_isThing.2.1 9 = .ok (.if_icmp .ge 7, 3) := by decide +kernel
theorem dMo_isThing_12 : decode mMo_isThing.2.1 12 = .ok (.iconst 1, 1) := by decide +kernel
theorem dMo_isThing_13 : decode mMo_isThing.2.1 13 = .ok (.goto 4, 3) := by decide +kernel
theorem dMo_isThing_16 : decode mMo_isThing.2.1 16 = .ok (.iconst 0, 1) := by decide +kernel
theorem dMo_isThing_17 : decode mMo_isThing.2.1 17 = .ok (.ireturn, 1) := by decide +kernel
theorem dMo_isSource_0 : decode mMo_isSource.2.1 0 = .ok (.aload_n 0, 1) := by decide +kernel
theorem dMo_isSource_1 : decode mMo_isSource.2.1 1 = .ok (.iload_n 1, 1) := by decide +kernel
theorem dMo_isSource_2 : decode mMo_isSource.2.1 2 = .ok (.invokevirtual 94, 3) := by decide +kernel
theorem dMo_isSource_5 : decode mMo_isSource.2.1 5 = .ok (.ifCond .eq 17, 3) := by decide +kernel
theorem dMo_isSource_8 : decode mMo_isSource.2.1 8 = .ok (.aload_n 0, 1) := by decide +kernel
theorem dMo_isSource_9 : decode mMo_isSource.2.1 9 = .ok (.getfield 7, 3) := by decide +kernel
theorem dMo_isSource_12 : decode mMo_isSource.2.1 12 = .ok (.iload_n 1, 1) := by decide +kernel
theorem dMo_isSource_13 : decode mMo_isSource.2.1 13 = .ok (.iaload, 1) := by decide +kernel
theorem dMo_isSource_14 : decode mMo_isSource.2.1 14 = .ok (.iconst 3, 1) := by decide +kernel
theorem dMo_isSource_15 : decode mMo_isSource.2.1 15 = .ok (.if_icmp .eq 7, 3) := by decide +kernel
theorem dMo_isSource_18 : decode mMo_isSource.2.1 18 = .ok (.iconst 1, 1) := by decide +kernel
theorem dMo_isSource_19 : decode mMo_isSource.2.1 19 = .ok (.goto 4, 3) := by decide +kernel
theorem dMo_isSource_22 : decode mMo_isSource.2.1 22 = .ok (.iconst 0, 1) := by decide +kernel
theorem dMo_isSource_23 : decode mMo_isSource.2.1 23 = .ok (.ireturn, 1) := by decide +kernel
theorem dMo_has_0 : decode mMo_has.2.1 0 = .ok (.lload_n 2, 1) := by decide +kernel
theorem dMo_has_1 : decode mMo_has.2.1 1 = .ok (.lconst 1, 1) := by decide +kernel
theorem dMo_has_2 : decode mMo_has.2.1 2 = .ok (.lcmp, 1) := by decide +kernel
theorem dMo_has_3 : decode mMo_has.2.1 3 = .ok (.ifCond .lt 17, 3) := by decide +kernel
theorem dMo_has_6 : decode mMo_has.2.1 6 = .ok (.lload_n 2, 1) := by decide +kernel
theorem dMo_has_7 : decode mMo_has.2.1 7 = .ok (.aload_n 0, 1) := by decide +kernel
theorem dMo_has_8 : decode mMo_has.2.1 8 = .ok (.iload_n 1, 1) := by decide +kernel
theorem dMo_has_9 : decode mMo_has.2.1 9 = .ok (.invokevirtual 112, 3) := by decide +kernel
theorem dMo_has_12 : decode mMo_has.2.1 12 = .ok (.lcmp, 1) := by decide +kernel
theorem dMo_has_13 : decode mMo_has.2.1 13 = .ok (.ifCond .gt 7, 3) := by decide +kernel
theorem dMo_has_16 : decode mMo_has.2.1 16 = .ok (.iconst 1, 1) := by decide +kernel
theorem dMo_has_17 : decode mMo_has.2.1 17 = .ok (.goto 4, 3) := by decide +kernel
theorem dMo_has_20 : decode mMo_has.2.1 20 = .ok (.iconst 0, 1) := by decide +kernel
theorem dMo_has_21 : decode mMo_has.2.1 21 = .ok (.ireturn, 1) := by decide +kernel
theorem dMo_gramsIn_0 : decode mMo_gramsIn.2.1 0 = .ok (.lconst 0, 1) := by decide +kernel
theorem dMo_gramsIn_1 : decode mMo_gramsIn.2.1 1 = .ok (.lstore_n 2, 1) := by decide +kernel
theorem dMo_gramsIn_2 : decode mMo_gramsIn.2.1 2 = .ok (.iconst 0, 1) := by decide +kernel
theorem dMo_gramsIn_3 : decode mMo_gramsIn.2.1 3 = .ok (.istore 4, 2) := by decide +kernel
theorem dMo_gramsIn_5 : decode mMo_gramsIn.2.1 5 = .ok (.iload 4, 2) := by decide +kernel
theorem dMo_gramsIn_7 : decode mMo_gramsIn.2.1 7 = .ok (.aload_n 0, 1) := by decide +kernel
theorem dMo_gramsIn_8 : decode mMo_gramsIn.2.1 8 = .ok (.getfield 13, 3) := by decide +kernel
theorem dMo_gramsIn_11 : decode mMo_gramsIn.2.1 11 = .ok (.iload_n 1, 1) := by decide +kernel
theorem dMo_gramsIn_12 : decode mMo_gramsIn.2.1 12 = .ok (.iaload, 1) := by decide +kernel
theorem dMo_gramsIn_13 : decode mMo_gramsIn.2.1 13 = .ok (.if_icmp .ge 24, 3) := by decide +kernel
theorem dMo_gramsIn_16 : decode mMo_gramsIn.2.1 16 = .ok (.lload_n 2, 1) := by decide +kernel
theorem dMo_gramsIn_17 : decode mMo_gramsIn.2.1 17 = .ok (.aload_n 0, 1) := by decide +kernel
theorem dMo_gramsIn_18 : decode mMo_gramsIn.2.1 18 = .ok (.getfield 19, 3) := by decide +kernel
theorem dMo_gramsIn_21 : decode mMo_gramsIn.2.1 21 = .ok (.bipush 81, 2) := by decide +kernel
theorem dMo_gramsIn_23 : decode mMo_gramsIn.2.1 23 = .ok (.iload_n 1, 1) := by decide +kernel
theorem dMo_gramsIn_24 : decode mMo_gramsIn.2.1 24 = .ok (.imul, 1) := by decide +kernel
theorem dMo_gramsIn_25 : decode mMo_gramsIn.2.1 25 = .ok (.iload 4, 2) := by decide +kernel
theorem dMo_gramsIn_27 : decode mMo_gramsIn.2.1 27 = .ok (.iadd, 1) := by decide +kernel
theorem dMo_gramsIn_28 : decode mMo_gramsIn.2.1 28 = .ok (.laload, 1) := by decide +kernel
theorem dMo_gramsIn_29 : decode mMo_gramsIn.2.1 29 = .ok (.ladd, 1) := by decide +kernel
theorem dMo_gramsIn_30 : decode mMo_gramsIn.2.1 30 = .ok (.lstore_n 2, 1) := by decide +kernel
theorem dMo_gramsIn_31 : decode mMo_gramsIn.2.1 31 = .ok (.iinc 4 1, 3) := by decide +kernel
theorem dMo_gramsIn_34 : decode mMo_gramsIn.2.1 34 = .ok (.goto (-29), 3) := by decide +kernel
theorem dMo_gramsIn_37 : decode mMo_gramsIn.2.1 37 = .ok (.lload_n 2, 1) := by decide +kernel
theorem dMo_gramsIn_38 : decode mMo_gramsIn.2.1 38 = .ok (.lreturn, 1) := by decide +kernel
theorem dMo_layBy_0 : decode mMo_layBy.2.1 0 = .ok (.aload_n 0, 1) := by decide +kernel
theorem dMo_layBy_1 : decode mMo_layBy.2.1 1 = .ok (.iconst 0, 1) := by decide +kernel
theorem dMo_layBy_2 : decode mMo_layBy.2.1 2 = .ok (.putfield 105, 3) := by decide +kernel
theorem dMo_layBy_5 : decode mMo_layBy.2.1 5 = .ok (.iconst 0, 1) := by decide +kernel
theorem dMo_layBy_6 : decode mMo_layBy.2.1 6 = .ok (.istore 5, 2) := by decide +kernel
theorem dMo_layBy_8 : decode mMo_layBy.2.1 8 = .ok (.iload_n 1, 1) := by decide +kernel
theorem dMo_layBy_9 : decode mMo_layBy.2.1 9 = .ok (.iconst (-1), 1) := by decide +kernel
theorem dMo_layBy_10 : decode mMo_layBy.2.1 10 = .ok (.if_icmp .eq 48, 3) := by decide +kernel
theorem dMo_layBy_13 : decode mMo_layBy.2.1 13 = .ok (.iload 5, 2) := by decide +kernel
theorem dMo_layBy_15 : decode mMo_layBy.2.1 15 = .ok (.aload_n 0, 1) := by decide +kernel
theorem dMo_layBy_16 : decode mMo_layBy.2.1 16 = .ok (.getfield 13, 3) := by decide +kernel
theorem dMo_layBy_19 : decode mMo_layBy.2.1 19 = .ok (.iload_n 1, 1) := by decide +kernel
theorem dMo_layBy_20 : decode mMo_layBy.2.1 20 = .ok (.iaload, 1) := by decide +kernel
theorem dMo_layBy_21 : decode mMo_layBy.2.1 21 = .ok (.if_icmp .ge 37, 3) := by decide +kernel
theorem dMo_layBy_24 : decode mMo_layBy.2.1 24 = .ok (.aload_n 0, 1) := by decide +kernel
theorem dMo_layBy_25 : decode mMo_layBy.2.1 25 = .ok (.aload_n 0, 1) := by decide +kernel
theorem dMo_layBy_26 : decode mMo_layBy.2.1 26 = .ok (.getfield 16, 3) := by decide +kernel
theorem dMo_layBy_29 : decode mMo_layBy.2.1 29 = .ok (.bipush 81, 2) := by decide +kernel
theorem dMo_layBy_31 : decode mMo_layBy.2.1 31 = .ok (.iload_n 1, 1) := by decide +kernel
theorem dMo_layBy_32 : decode mMo_layBy.2.1 32 = .ok (.imul, 1) := by decide +kernel
theorem dMo_layBy_33 : decode mMo_layBy.2.1 33 = .ok (.iload 5, 2) := by decide +kernel
theorem dMo_layBy_35 : decode mMo_layBy.2.1 35 = .ok (.iadd, 1) := by decide +kernel
theorem dMo_layBy_36 : decode mMo_layBy.2.1 36 = .ok (.iaload, 1) := by decide +kernel
theorem dMo_layBy_37 : decode mMo_layBy.2.1 37 = .ok (.aload_n 0, 1) := by decide +kernel
theorem dMo_layBy_38 : decode mMo_layBy.2.1 38 = .ok (.getfield 19, 3) := by decide +kernel
theorem dMo_layBy_41 : decode mMo_layBy.2.1 41 = .ok (.bipush 81, 2) := by decide +kernel
theorem dMo_layBy_43 : decode mMo_layBy.2.1 43 = .ok (.iload_n 1, 1) := by decide +kernel
theorem dMo_layBy_44 : decode mMo_layBy.2.1 44 = .ok (.imul, 1) := by decide +kernel
theorem dMo_layBy_45 : decode mMo_layBy.2.1 45 = .ok (.iload 5, 2) := by decide +kernel
theorem dMo_layBy_47 : decode mMo_layBy.2.1 47 = .ok (.iadd, 1) := by decide +kernel
theorem dMo_layBy_48 : decode mMo_layBy.2.1 48 = .ok (.laload, 1) := by decide +kernel
theorem dMo_layBy_49 : decode mMo_layBy.2.1 49 = .ok (.invokevirtual 108, 3) := by decide +kernel
theorem dMo_layBy_52 : decode mMo_layBy.2.1 52 = .ok (.iinc 5 1, 3) := by decide +kernel
theorem dMo_layBy_55 : decode mMo_layBy.2.1 55 = .ok (.goto (-47), 3) := by decide +kernel
theorem dMo_layBy_58 : decode mMo_layBy.2.1 58 = .ok (.lload_n 3, 1) := by decide +kernel
theorem dMo_layBy_59 : decode mMo_layBy.2.1 59 = .ok (.lstore 5, 2) := by decide +kernel
theorem dMo_layBy_61 : decode mMo_layBy.2.1 61 = .ok (.iconst 0, 1) := by decide +kernel
theorem dMo_layBy_62 : decode mMo_layBy.2.1 62 = .ok (.istore 7, 2) := by decide +kernel
theorem dMo_layBy_64 : decode mMo_layBy.2.1 64 = .ok (.iload 7, 2) := by decide +kernel
theorem dMo_layBy_66 : decode mMo_layBy.2.1 66 = .ok (.aload_n 0, 1) := by decide +kernel
theorem dMo_layBy_67 : decode mMo_layBy.2.1 67 = .ok (.getfield 13, 3) := by decide +kernel
theorem dMo_layBy_70 : decode mMo_layBy.2.1 70 = .ok (.iload_n 2, 1) := by decide +kernel
theorem dMo_layBy_71 : decode mMo_layBy.2.1 71 = .ok (.iaload, 1) := by decide +kernel
theorem dMo_layBy_72 : decode mMo_layBy.2.1 72 = .ok (.if_icmp .ge 78, 3) := by decide +kernel
theorem dMo_layBy_75 : decode mMo_layBy.2.1 75 = .ok (.lload 5, 2) := by decide +kernel
theorem dMo_layBy_77 : decode mMo_layBy.2.1 77 = .ok (.lconst 0, 1) := by decide +kernel
theorem dMo_layBy_78 : decode mMo_layBy.2.1 78 = .ok (.lcmp, 1) := by decide +kernel
theorem dMo_layBy_79 : decode mMo_layBy.2.1 79 = .ok (.ifCond .le 71, 3) := by decide +kernel
theorem dMo_layBy_82 : decode mMo_layBy.2.1 82 = .ok (.aload_n 0, 1) := by decide +kernel
theorem dMo_layBy_83 : decode mMo_layBy.2.1 83 = .ok (.getfield 19, 3) := by decide +kernel
theorem dMo_layBy_86 : decode mMo_layBy.2.1 86 = .ok (.bipush 81, 2) := by decide +kernel
theorem dMo_layBy_88 : decode mMo_layBy.2.1 88 = .ok (.iload_n 2, 1) := by decide +kernel
theorem dMo_layBy_89 : decode mMo_layBy.2.1 89 = .ok (.imul, 1) := by decide +kernel
theorem dMo_layBy_90 : decode mMo_layBy.2.1 90 = .ok (.iload 7, 2) := by decide +kernel
theorem dMo_layBy_92 : decode mMo_layBy.2.1 92 = .ok (.iadd, 1) := by decide +kernel
theorem dMo_layBy_93 : decode mMo_layBy.2.1 93 = .ok (.laload, 1) := by decide +kernel
theorem dMo_layBy_94 : decode mMo_layBy.2.1 94 = .ok (.lload 5, 2) := by decide +kernel
theorem dMo_layBy_96 : decode mMo_layBy.2.1 96 = .ok (.lcmp, 1) := by decide +kernel
theorem dMo_layBy_97 : decode mMo_layBy.2.1 97 = .ok (.ifCond .ge 18, 3) := by decide +kernel
theorem dMo_layBy_100 : decode mMo_layBy.2.1 100 = .ok (.aload_n 0, 1) := by decide +kernel
theorem dMo_layBy_101 : decode mMo_layBy.2.1 101 = .ok (.getfield 19, 3) := by decide +kernel
theorem dMo_layBy_104 : decode mMo_layBy.2.1 104 = .ok (.bipush 81, 2) := by decide +kernel
theorem dMo_layBy_106 : decode mMo_layBy.2.1 106 = .ok (.iload_n 2, 1) := by decide +kernel
theorem dMo_layBy_107 : decode mMo_layBy.2.1 107 = .ok (.imul, 1) := by decide +kernel
theorem dMo_layBy_108 : decode mMo_layBy.2.1 108 = .ok (.iload 7, 2) := by decide +kernel
theorem dMo_layBy_110 : decode mMo_layBy.2.1 110 = .ok (.iadd, 1) := by decide +kernel
theorem dMo_layBy_111 : decode mMo_layBy.2.1 111 = .ok (.laload, 1) := by decide +kernel
theorem dMo_layBy_112 : decode mMo_layBy.2.1 112 = .ok (.goto 5, 3) := by decide +kernel
theorem dMo_layBy_115 : decode mMo_layBy.2.1 115 = .ok (.lload 5, 2) := by decide +kernel
theorem dMo_layBy_117 : decode mMo_layBy.2.1 117 = .ok (.lstore 8, 2) := by decide +kernel
theorem dMo_layBy_119 : decode mMo_layBy.2.1 119 = .ok (.aload_n 0, 1) := by decide +kernel
theorem dMo_layBy_120 : decode mMo_layBy.2.1 120 = .ok (.aload_n 0, 1) := by decide +kernel
theorem dMo_layBy_121 : decode mMo_layBy.2.1 121 = .ok (.getfield 16, 3) := by decide +kernel
theorem dMo_layBy_124 : decode mMo_layBy.2.1 124 = .ok (.bipush 81, 2) := by decide +kernel
theorem dMo_layBy_126 : decode mMo_layBy.2.1 126 = .ok (.iload_n 2, 1) := by decide +kernel
theorem dMo_layBy_127 : decode mMo_layBy.2.1 127 = .ok (.imul, 1) := by decide +kernel
theorem dMo_layBy_128 : decode mMo_layBy.2.1 128 = .ok (.iload 7, 2) := by decide +kernel
theorem dMo_layBy_130 : decode mMo_layBy.2.1 130 = .ok (.iadd, 1) := by decide +kernel
theorem dMo_layBy_131 : decode mMo_layBy.2.1 131 = .ok (.iaload, 1) := by decide +kernel
theorem dMo_layBy_132 : decode mMo_layBy.2.1 132 = .ok (.lload 8, 2) := by decide +kernel
theorem dMo_layBy_134 : decode mMo_layBy.2.1 134 = .ok (.invokevirtual 108, 3) := by decide +kernel
theorem dMo_layBy_137 : decode mMo_layBy.2.1 137 = .ok (.lload 5, 2) := by decide +kernel
theorem dMo_layBy_139 : decode mMo_layBy.2.1 139 = .ok (.lload 8, 2) := by decide +kernel
theorem dMo_layBy_141 : decode mMo_layBy.2.1 141 = .ok (.lsub, 1) := by decide +kernel
theorem dMo_layBy_142 : decode mMo_layBy.2.1 142 = .ok (.lstore 5, 2) := by decide +kernel
theorem dMo_layBy_144 : decode mMo_layBy.2.1 144 = .ok (.iinc 7 1, 3) := by decide +kernel
theorem dMo_layBy_147 : decode mMo_layBy.2.1 147 = .ok (.goto (-83), 3) := by decide +kernel
theorem dMo_layBy_150 : decode mMo_layBy.2.1 150 = .ok (.return_, 1) := by decide +kernel
theorem dMo_lay_0 : decode mMo_lay.2.1 0 = .ok (.aload_n 0, 1) := by decide +kernel
theorem dMo_lay_1 : decode mMo_lay.2.1 1 = .ok (.getfield 105, 3) := by decide +kernel
theorem dMo_lay_4 : decode mMo_lay.2.1 4 = .ok (.ifCond .le 34, 3) := by decide +kernel
theorem dMo_lay_7 : decode mMo_lay.2.1 7 = .ok (.aload_n 0, 1) := by decide +kernel
theorem dMo_lay_8 : decode mMo_lay.2.1 8 = .ok (.getfield 42, 3) := by decide +kernel
theorem dMo_lay_11 : decode mMo_lay.2.1 11 = .ok (.aload_n 0, 1) := by decide +kernel
theorem dMo_lay_12 : decode mMo_lay.2.1 12 = .ok (.getfield 105, 3) := by decide +kernel
theorem dMo_lay_15 : decode mMo_lay.2.1 15 = .ok (.iconst 1, 1) := by decide +kernel
theorem dMo_lay_16 : decode mMo_lay.2.1 16 = .ok (.isub, 1) := by decide +kernel
theorem dMo_lay_17 : decode mMo_lay.2.1 17 = .ok (.iaload, 1) := by decide +kernel
theorem dMo_lay_18 : decode mMo_lay.2.1 18 = .ok (.iload_n 1, 1) := by decide +kernel
theorem dMo_lay_19 : decode mMo_lay.2.1 19 = .ok (.if_icmp .ne 19, 3) := by decide +kernel
theorem dMo_lay_22 : decode mMo_lay.2.1 22 = .ok (.aload_n 0, 1) := by decide +kernel
theorem dMo_lay_23 : decode mMo_lay.2.1 23 = .ok (.getfield 45, 3) := by decide +kernel
theorem dMo_lay_26 : decode mMo_lay.2.1 26 = .ok (.aload_n 0, 1) := by decide +kernel
theorem dMo_lay_27 : decode mMo_lay.2.1 27 = .ok (.getfield 105, 3) := by decide +kernel
theorem dMo_lay_30 : decode mMo_lay.2.1 30 = .ok (.iconst 1, 1) := by decide +kernel
theorem dMo_lay_31 : decode mMo_lay.2.1 31 = .ok (.isub, 1) := by decide +kernel
theorem dMo_lay_32 : decode mMo_lay.2.1 32 = .ok (.dup2, 1) := by decide +kernel
theorem dMo_lay_33 : decode mMo_lay.2.1 33 = .ok (.laload, 1) := by decide +kernel
theorem dMo_lay_34 : decode mMo_lay.2.1 34 = .ok (.lload_n 2, 1) := by decide +kernel
theorem dMo_lay_35 : decode mMo_lay.2.1 35 = .ok (.ladd, 1) := by decide +kernel
theorem dMo_lay_36 : decode mMo_lay.2.1 36 = .ok (.lastore, 1) := by decide +kernel
theorem dMo_lay_37 : decode mMo_lay.2.1 37 = .ok (.return_, 1) := by decide +kernel
theorem dMo_lay_38 : decode mMo_lay.2.1 38 = .ok (.aload_n 0, 1) := by decide +kernel
theorem dMo_lay_39 : decode mMo_lay.2.1 39 = .ok (.getfield 42, 3) := by decide +kernel
theorem dMo_lay_42 : decode mMo_lay.2.1 42 = .ok (.aload_n 0, 1) := by decide +kernel
theorem dMo_lay_43 : decode mMo_lay.2.1 43 = .ok (.getfield 105, 3) := by decide +kernel
theorem dMo_lay_46 : decode mMo_lay.2.1 46 = .ok (.iload_n 1, 1) := by decide +kernel
theorem dMo_lay_47 : decode mMo_lay.2.1 47 = .ok (.iastore, 1) := by decide +kernel
theorem dMo_lay_48 : decode mMo_lay.2.1 48 = .ok (.aload_n 0, 1) := by decide +kernel
theorem dMo_lay_49 : decode mMo_lay.2.1 49 = .ok (.getfield 45, 3) := by decide +kernel
theorem dMo_lay_52 : decode mMo_lay.2.1 52 = .ok (.aload_n 0, 1) := by decide +kernel
theorem dMo_lay_53 : decode mMo_lay.2.1 53 = .ok (.getfield 105, 3) := by decide +kernel
theorem dMo_lay_56 : decode mMo_lay.2.1 56 = .ok (.lload_n 2, 1) := by decide +kernel
theorem dMo_lay_57 : decode mMo_lay.2.1 57 = .ok (.lastore, 1) := by decide +kernel
theorem dMo_lay_58 : decode mMo_lay.2.1 58 = .ok (.aload_n 0, 1) := by decide +kernel
theorem dMo_lay_59 : decode mMo_lay.2.1 59 = .ok (.dup, 1) := by decide +kernel
theorem dMo_lay_60 : decode mMo_lay.2.1 60 = .ok (.getfield 105, 3) := by decide +kernel
theorem dMo_lay_63 : decode mMo_lay.2.1 63 = .ok (.iconst 1, 1) := by decide +kernel
theorem dMo_lay_64 : decode mMo_lay.2.1 64 = .ok (.iadd, 1) := by decide +kernel
theorem dMo_lay_65 : decode mMo_lay.2.1 65 = .ok (.putfield 105, 3) := by decide +kernel
theorem dMo_lay_68 : decode mMo_lay.2.1 68 = .ok (.return_, 1) := by decide +kernel
theorem dMo_putDown_0 : decode mMo_putDown.2.1 0 = .ok (.aload_n 0, 1) := by decide +kernel
theorem dMo_putDown_1 : decode mMo_putDown.2.1 1 = .ok (.getfield 13, 3) := by decide +kernel
theorem dMo_putDown_4 : decode mMo_putDown.2.1 4 = .ok (.iload_n 1, 1) := by decide +kernel
theorem dMo_putDown_5 : decode mMo_putDown.2.1 5 = .ok (.aload_n 0, 1) := by decide +kernel
theorem dMo_putDown_6 : decode mMo_putDown.2.1 6 = .ok (.getfield 105, 3) := by decide +kernel
theorem dMo_putDown_9 : decode mMo_putDown.2.1 9 = .ok (.iastore, 1) := by decide +kernel
theorem dMo_putDown_10 : decode mMo_putDown.2.1 10 = .ok (.iconst 0, 1) := by decide +kernel
theorem dMo_putDown_11 : decode mMo_putDown.2.1 11 = .ok (.istore_n 2, 1) := by decide +kernel
theorem dMo_putDown_12 : decode mMo_putDown.2.1 12 = .ok (.iload_n 2, 1) := by decide +kernel
theorem dMo_putDown_13 : decode mMo_putDown.2.1 13 = .ok (.aload_n 0, 1) := by decide +kernel
theorem dMo_putDown_14 : decode mMo_putDown.2.1 14 = .ok (.getfield 105, 3) := by decide +kernel
theorem dMo_putDown_17 : decode mMo_putDown.2.1 17 = .ok (.if_icmp .ge 43, 3) := by decide +kernel
theorem dMo_putDown_20 : decode mMo_putDown.2.1 20 = .ok (.aload_n 0, 1) := by decide +kernel
theorem dMo_putDown_21 : decode mMo_putDown.2.1 21 = .ok (.getfield 16, 3) := by decide +kernel
theorem dMo_putDown_24 : decode mMo_putDown.2.1 24 = .ok (.bipush 81, 2) := by decide +kernel
theorem dMo_putDown_26 : decode mMo_putDown.2.1 26 = .ok (.iload_n 1, 1) := by decide +kernel
theorem dMo_putDown_27 : decode mMo_putDown.2.1 27 = .ok (.imul, 1) := by decide +kernel
theorem dMo_putDown_28 : decode mMo_putDown.2.1 28 = .ok (.iload_n 2, 1) := by decide +kernel
theorem dMo_putDown_29 : decode mMo_putDown.2.1 29 = .ok (.iadd, 1) := by decide +kernel
theorem dMo_putDown_30 : decode mMo_putDown.2.1 30 = .ok (.aload_n 0, 1) := by decide +kernel
theorem dMo_putDown_31 : decode mMo_putDown.2.1 31 = .ok (.getfield 42, 3) := by decide +kernel
theorem dMo_putDown_34 : decode mMo_putDown.2.1 34 = .ok (.iload_n 2, 1) := by decide +kernel
theorem dMo_putDown_35 : decode mMo_putDown.2.1 35 = .ok (.iaload, 1) := by decide +kernel
theorem dMo_putDown_36 : decode mMo_putDown.2.1 36 = .ok (.iastore, 1) := by decide +kernel
theorem dMo_putDown_37 : decode mMo_putDown.2.1 37 = .ok (.aload_n 0, 1) := by decide +kernel
theorem dMo_putDown_38 : decode mMo_putDown.2.1 38 = .ok (.getfield 19, 3) := by decide +kernel
theorem dMo_putDown_41 : decode mMo_putDown.2.1 41 = .ok (.bipush 81, 2) := by decide +kernel
theorem dMo_putDown_43 : decode mMo_putDown.2.1 43 = .ok (.iload_n 1, 1) := by decide +kernel
theorem dMo_putDown_44 : decode mMo_putDown.2.1 44 = .ok (.imul, 1) := by decide +kernel
theorem dMo_putDown_45 : decode mMo_putDown.2.1 45 = .ok (.iload_n 2, 1) := by decide +kernel
theorem dMo_putDown_46 : decode mMo_putDown.2.1 46 = .ok (.iadd, 1) := by decide +kernel
theorem dMo_putDown_47 : decode mMo_putDown.2.1 47 = .ok (.aload_n 0, 1) := by decide +kernel
theorem dMo_putDown_48 : decode mMo_putDown.2.1 48 = .ok (.getfield 45, 3) := by decide +kernel
theorem dMo_putDown_51 : decode mMo_putDown.2.1 51 = .ok (.iload_n 2, 1) := by decide +kernel
theorem dMo_putDown_52 : decode mMo_putDown.2.1 52 = .ok (.laload, 1) := by decide +kernel
theorem dMo_putDown_53 : decode mMo_putDown.2.1 53 = .ok (.lastore, 1) := by decide +kernel
theorem dMo_putDown_54 : decode mMo_putDown.2.1 54 = .ok (.iinc 2 1, 3) := by decide +kernel
theorem dMo_putDown_57 : decode mMo_putDown.2.1 57 = .ok (.goto (-45), 3) := by decide +kernel
theorem dMo_putDown_60 : decode mMo_putDown.2.1 60 = .ok (.return_, 1) := by decide +kernel
theorem dMo_takeOut_0 : decode mMo_takeOut.2.1 0 = .ok (.lload_n 2, 1) := by decide +kernel
theorem dMo_takeOut_1 : decode mMo_takeOut.2.1 1 = .ok (.lstore 4, 2) := by decide +kernel
theorem dMo_takeOut_3 : decode mMo_takeOut.2.1 3 = .ok (.iconst 0, 1) := by decide +kernel
theorem dMo_takeOut_4 : decode mMo_takeOut.2.1 4 = .ok (.istore 6, 2) := by decide +kernel
theorem dMo_takeOut_6 : decode mMo_takeOut.2.1 6 = .ok (.iconst 0, 1) := by decide +kernel
theorem dMo_takeOut_7 : decode mMo_takeOut.2.1 7 = .ok (.istore 7, 2) := by decide +kernel
theorem dMo_takeOut_9 : decode mMo_takeOut.2.1 9 = .ok (.iload 7, 2) := by decide +kernel
theorem dMo_takeOut_11 : decode mMo_takeOut.2.1 11 = .ok (.aload_n 0, 1) := by decide +kernel
theorem dMo_takeOut_12 : decode mMo_takeOut.2.1 12 = .ok (.getfield 13, 3) := by decide +kernel
theorem dMo_takeOut_15 : decode mMo_takeOut.2.1 15 = .ok (.iload_n 1, 1) := by decide +kernel
theorem dMo_takeOut_16 : decode mMo_takeOut.2.1 16 = .ok (.iaload, 1) := by decide +kernel
theorem dMo_takeOut_17 : decode mMo_takeOut.2.1 17 = .ok (.if_icmp .ge 99, 3) := by decide +kernel
theorem dMo_takeOut_20 : decode mMo_takeOut.2.1 20 = .ok (.aload_n 0, 1) := by decide +kernel
theorem dMo_takeOut_21 : decode mMo_takeOut.2.1 21 = .ok (.getfield 19, 3) := by decide +kernel
theorem dMo_takeOut_24 : decode mMo_takeOut.2.1 24 = .ok (.bipush 81, 2) := by decide +kernel
theorem dMo_takeOut_26 : decode mMo_takeOut.2.1 26 = .ok (.iload_n 1, 1) := by decide +kernel
theorem dMo_takeOut_27 : decode mMo_takeOut.2.1 27 = .ok (.imul, 1) := by decide +kernel
theorem dMo_takeOut_28 : decode mMo_takeOut.2.1 28 = .ok (.iload 7, 2) := by decide +kernel
theorem dMo_takeOut_30 : decode mMo_takeOut.2.1 30 = .ok (.iadd, 1) := by decide +kernel
theorem dMo_takeOut_31 : decode mMo_takeOut.2.1 31 = .ok (.laload, 1) := by decide +kernel
theorem dMo_takeOut_32 : decode mMo_takeOut.2.1 32 = .ok (.lstore 8, 2) := by decide +kernel
theorem dMo_takeOut_34 : decode mMo_takeOut.2.1 34 = .ok (.lload 8, 2) := by decide +kernel
theorem dMo_takeOut_36 : decode mMo_takeOut.2.1 36 = .ok (.lload 4, 2) := by decide +kernel
theorem dMo_takeOut_38 : decode mMo_takeOut.2.1 38 = .ok (.lcmp, 1) := by decide +kernel
theorem dMo_takeOut_39 : decode mMo_takeOut.2.1 39 = .ok (.ifCond .ge 8, 3) := by decide +kernel
theorem dMo_takeOut_42 : decode mMo_takeOut.2.1 42 = .ok (.lload 8, 2) := by decide +kernel
theorem dMo_takeOut_44 : decode mMo_takeOut.2.1 44 = .ok (.goto 5, 3) := by decide +kernel
theorem dMo_takeOut_47 : decode mMo_takeOut.2.1 47 = .ok (.lload 4, 2) := by decide +kernel
theorem dMo_takeOut_49 : decode mMo_takeOut.2.1 49 = .ok (.lstore 10, 2) := by decide +kernel
theorem dMo_takeOut_51 : decode mMo_takeOut.2.1 51 = .ok (.lload 4, 2) := by decide +kernel
theorem dMo_takeOut_53 : decode mMo_takeOut.2.1 53 = .ok (.lload 10, 2) := by decide +kernel
theorem dMo_takeOut_55 : decode mMo_takeOut.2.1 55 = .ok (.lsub, 1) := by decide +kernel
theorem dMo_takeOut_56 : decode mMo_takeOut.2.1 56 = .ok (.lstore 4, 2) := by decide +kernel
theorem dMo_takeOut_58 : decode mMo_takeOut.2.1 58 = .ok (.lload 8, 2) := by decide +kernel
theorem dMo_takeOut_60 : decode mMo_takeOut.2.1 60 = .ok (.lload 10, 2) := by decide +kernel
theorem dMo_takeOut_62 : decode mMo_takeOut.2.1 62 = .ok (.lcmp, 1) := by decide +kernel
theorem dMo_takeOut_63 : decode mMo_takeOut.2.1 63 = .ok (.ifCond .le 47, 3) := by decide +kernel
theorem dMo_takeOut_66 : decode mMo_takeOut.2.1 66 = .ok (.aload_n 0, 1) := by decide +kernel
theorem dMo_takeOut_67 : decode mMo_takeOut.2.1 67 = .ok (.getfield 16, 3) := by decide +kernel
theorem dMo_takeOut_70 : decode mMo_takeOut.2.1 70 = .ok (.bipush 81, 2) := by decide +kernel
theorem dMo_takeOut_72 : decode mMo_takeOut.2.1 72 = .ok (.iload_n 1, 1) := by decide +kernel
theorem dMo_takeOut_73 : decode mMo_takeOut.2.1 73 = .ok (.imul, 1) := by decide +kernel
theorem dMo_takeOut_74 : decode mMo_takeOut.2.1 74 = .ok (.iload 6, 2) := by decide +kernel
theorem dMo_takeOut_76 : decode mMo_takeOut.2.1 76 = .ok (.iadd, 1) := by decide +kernel
theorem dMo_takeOut_77 : decode mMo_takeOut.2.1 77 = .ok (.aload_n 0, 1) := by decide +kernel
theorem dMo_takeOut_78 : decode mMo_takeOut.2.1 78 = .ok (.getfield 16, 3) := by decide +kernel
theorem dMo_takeOut_81 : decode mMo_takeOut.2.1 81 = .ok (.bipush 81, 2) := by decide +kernel
theorem dMo_takeOut_83 : decode mMo_takeOut.2.1 83 = .ok (.iload_n 1, 1) := by decide +kernel
theorem dMo_takeOut_84 : decode mMo_takeOut.2.1 84 = .ok (.imul, 1) := by decide +kernel
theorem dMo_takeOut_85 : decode mMo_takeOut.2.1 85 = .ok (.iload 7, 2) := by decide +kernel
theorem dMo_takeOut_87 : decode mMo_takeOut.2.1 87 = .ok (.iadd, 1) := by decide +kernel
theorem dMo_takeOut_88 : decode mMo_takeOut.2.1 88 = .ok (.iaload, 1) := by decide +kernel
theorem dMo_takeOut_89 : decode mMo_takeOut.2.1 89 = .ok (.iastore, 1) := by decide +kernel
theorem dMo_takeOut_90 : decode mMo_takeOut.2.1 90 = .ok (.aload_n 0, 1) := by decide +kernel
theorem dMo_takeOut_91 : decode mMo_takeOut.2.1 91 = .ok (.getfield 19, 3) := by decide +kernel
theorem dMo_takeOut_94 : decode mMo_takeOut.2.1 94 = .ok (.bipush 81, 2) := by decide +kernel
theorem dMo_takeOut_96 : decode mMo_takeOut.2.1 96 = .ok (.iload_n 1, 1) := by decide +kernel
theorem dMo_takeOut_97 : decode mMo_takeOut.2.1 97 = .ok (.imul, 1) := by decide +kernel
theorem dMo_takeOut_98 : decode mMo_takeOut.2.1 98 = .ok (.iload 6, 2) := by decide +kernel
theorem dMo_takeOut_100 : decode mMo_takeOut.2.1 100 = .ok (.iadd, 1) := by decide +kernel
theorem dMo_takeOut_101 : decode mMo_takeOut.2.1 101 = .ok (.lload 8, 2) := by decide +kernel
theorem dMo_takeOut_103 : decode mMo_takeOut.2.1 103 = .ok (.lload 10, 2) := by decide +kernel
theorem dMo_takeOut_105 : decode mMo_takeOut.2.1 105 = .ok (.lsub, 1) := by decide +kernel
theorem dMo_takeOut_106 : decode mMo_takeOut.2.1 106 = .ok (.lastore, 1) := by decide +kernel
theorem dMo_takeOut_107 : decode mMo_takeOut.2.1 107 = .ok (.iinc 6 1, 3) := by decide +kernel
theorem dMo_takeOut_110 : decode mMo_takeOut.2.1 110 = .ok (.iinc 7 1, 3) := by decide +kernel
theorem dMo_takeOut_113 : decode mMo_takeOut.2.1 113 = .ok (.goto (-104), 3) := by decide +kernel
theorem dMo_takeOut_116 : decode mMo_takeOut.2.1 116 = .ok (.aload_n 0, 1) := by decide +kernel
theorem dMo_takeOut_117 : decode mMo_takeOut.2.1 117 = .ok (.getfield 13, 3) := by decide +kernel
theorem dMo_takeOut_120 : decode mMo_takeOut.2.1 120 = .ok (.iload_n 1, 1) := by decide +kernel
theorem dMo_takeOut_121 : decode mMo_takeOut.2.1 121 = .ok (.iload 6, 2) := by decide +kernel
theorem dMo_takeOut_123 : decode mMo_takeOut.2.1 123 = .ok (.iastore, 1) := by decide +kernel
theorem dMo_takeOut_124 : decode mMo_takeOut.2.1 124 = .ok (.return_, 1) := by decide +kernel
theorem dMo_box_0 : decode mMo_box.2.1 0 = .ok (.aload_n 0, 1) := by decide +kernel
theorem dMo_box_1 : decode mMo_box.2.1 1 = .ok (.iload_n 1, 1) := by decide +kernel
theorem dMo_box_2 : decode mMo_box.2.1 2 = .ok (.invokevirtual 120, 3) := by decide +kernel
theorem dMo_box_5 : decode mMo_box.2.1 5 = .ok (.ifCond .eq 33, 3) := by decide +kernel
theorem dMo_box_8 : decode mMo_box.2.1 8 = .ok (.iload 4, 2) := by decide +kernel
theorem dMo_box_10 : decode mMo_box.2.1 10 = .ok (.ifCond .lt 28, 3) := by decide +kernel
theorem dMo_box_13 : decode mMo_box.2.1 13 = .ok (.iload 4, 2) := by decide +kernel
theorem dMo_box_15 : decode mMo_box.2.1 15 = .ok (.bipush 99, 2) := by decide +kernel
theorem dMo_box_17 : decode mMo_box.2.1 17 = .ok (.if_icmp .gt 21, 3) := by decide +kernel
theorem dMo_box_20 : decode mMo_box.2.1 20 = .ok (.aload_n 0, 1) := by decide +kernel
theorem dMo_box_21 : decode mMo_box.2.1 21 = .ok (.getfield 26, 3) := by decide +kernel
theorem dMo_box_24 : decode mMo_box.2.1 24 = .ok (.iload_n 1, 1) := by decide +kernel
theorem dMo_box_25 : decode mMo_box.2.1 25 = .ok (.baload, 1) := by decide +kernel
theorem dMo_box_26 : decode mMo_box.2.1 26 = .ok (.ifCond .ne 12, 3) := by decide +kernel
theorem dMo_box_29 : decode mMo_box.2.1 29 = .ok (.aload_n 0, 1) := by decide +kernel
theorem dMo_box_30 : decode mMo_box.2.1 30 = .ok (.iload_n 1, 1) := by decide +kernel
theorem dMo_box_31 : decode mMo_box.2.1 31 = .ok (.lload_n 2, 1) := by decide +kernel
theorem dMo_box_32 : decode mMo_box.2.1 32 = .ok (.invokevirtual 123, 3) := by decide +kernel
theorem dMo_box_35 : decode mMo_box.2.1 35 = .ok (.ifCond .ne 5, 3) := by decide +kernel
theorem dMo_box_38 : decode mMo_box.2.1 38 = .ok (.iconst (-1), 1) := by decide +kernel
theorem dMo_box_39 : decode mMo_box.2.1 39 = .ok (.ireturn, 1) := by decide +kernel
theorem dMo_box_40 : decode mMo_box.2.1 40 = .ok (.aload_n 0, 1) := by decide +kernel
theorem dMo_box_41 : decode mMo_box.2.1 41 = .ok (.iconst (-1), 1) := by decide +kernel
theorem dMo_box_42 : decode mMo_box.2.1 42 = .ok (.iload_n 1, 1) := by decide +kernel
theorem dMo_box_43 : decode mMo_box.2.1 43 = .ok (.lload_n 2, 1) := by decide +kernel
theorem dMo_box_44 : decode mMo_box.2.1 44 = .ok (.invokevirtual 127, 3) := by decide +kernel
theorem dMo_box_47 : decode mMo_box.2.1 47 = .ok (.aload_n 0, 1) := by decide +kernel
theorem dMo_box_48 : decode mMo_box.2.1 48 = .ok (.getfield 105, 3) := by decide +kernel
theorem dMo_box_51 : decode mMo_box.2.1 51 = .ok (.bipush 80, 2) := by decide +kernel
theorem dMo_box_53 : decode mMo_box.2.1 53 = .ok (.if_icmp .gt 12, 3) := by decide +kernel
theorem dMo_box_56 : decode mMo_box.2.1 56 = .ok (.aload_n 0, 1) := by decide +kernel
theorem dMo_box_57 : decode mMo_box.2.1 57 = .ok (.getfield 90, 3) := by decide +kernel
theorem dMo_box_60 : decode mMo_box.2.1 60 = .ok (.bipush 70, 2) := by decide +kernel
theorem dMo_box_62 : decode mMo_box.2.1 62 = .ok (.if_icmp .ne 5, 3) := by decide +kernel
theorem dMo_box_65 : decode mMo_box.2.1 65 = .ok (.iconst (-1), 1) := by decide +kernel
theorem dMo_box_66 : decode mMo_box.2.1 66 = .ok (.ireturn, 1) := by decide +kernel
theorem dMo_box_67 : decode mMo_box.2.1 67 = .ok (.aload_n 0, 1) := by decide +kernel
theorem dMo_box_68 : decode mMo_box.2.1 68 = .ok (.iconst 3, 1) := by decide +kernel
theorem dMo_box_69 : decode mMo_box.2.1 69 = .ok (.iload 4, 2) := by decide +kernel
theorem dMo_box_71 : decode mMo_box.2.1 71 = .ok (.iconst 0, 1) := by decide +kernel
theorem dMo_box_72 : decode mMo_box.2.1 72 = .ok (.lconst 0, 1) := by decide +kernel
theorem dMo_box_73 : decode mMo_box.2.1 73 = .ok (.invokevirtual 101, 3) := by decide +kernel
theorem dMo_box_76 : decode mMo_box.2.1 76 = .ok (.istore 5, 2) := by decide +kernel
theorem dMo_box_78 : decode mMo_box.2.1 78 = .ok (.aload_n 0, 1) := by decide +kernel
theorem dMo_box_79 : decode mMo_box.2.1 79 = .ok (.iload 5, 2) := by decide +kernel
theorem dMo_box_81 : decode mMo_box.2.1 81 = .ok (.invokevirtual 131, 3) := by decide +kernel
theorem dMo_box_84 : decode mMo_box.2.1 84 = .ok (.aload_n 0, 1) := by decide +kernel
theorem dMo_box_85 : decode mMo_box.2.1 85 = .ok (.iload_n 1, 1) := by decide +kernel
theorem dMo_box_86 : decode mMo_box.2.1 86 = .ok (.lload_n 2, 1) := by decide +kernel
theorem dMo_box_87 : decode mMo_box.2.1 87 = .ok (.invokevirtual 135, 3) := by decide +kernel
theorem dMo_box_90 : decode mMo_box.2.1 90 = .ok (.aload_n 0, 1) := by decide +kernel
theorem dMo_box_91 : decode mMo_box.2.1 91 = .ok (.getfield 30, 3) := by decide +kernel
theorem dMo_box_94 : decode mMo_box.2.1 94 = .ok (.iload 5, 2) := by decide +kernel
theorem dMo_box_96 : decode mMo_box.2.1 96 = .ok (.aload_n 0, 1) := by decide +kernel
theorem dMo_box_97 : decode mMo_box.2.1 97 = .ok (.getfield 30, 3) := by decide +kernel
theorem dMo_box_100 : decode mMo_box.2.1 100 = .ok (.iload_n 1, 1) := by decide +kernel
theorem dMo_box_101 : decode mMo_box.2.1 101 = .ok (.iaload, 1) := by decide +kernel
theorem dMo_box_102 : decode mMo_box.2.1 102 = .ok (.iastore, 1) := by decide +kernel
theorem dMo_box_103 : decode mMo_box.2.1 103 = .ok (.iload 5, 2) := by decide +kernel
theorem dMo_box_105 : decode mMo_box.2.1 105 = .ok (.ireturn, 1) := by decide +kernel
theorem dMo_waste_0 : decode mMo_waste.2.1 0 = .ok (.aload_n 0, 1) := by decide +kernel
theorem dMo_waste_1 : decode mMo_waste.2.1 1 = .ok (.iload_n 1, 1) := by decide +kernel
theorem dMo_waste_2 : decode mMo_waste.2.1 2 = .ok (.invokevirtual 94, 3) := by decide +kernel
theorem dMo_waste_5 : decode mMo_waste.2.1 5 = .ok (.ifCond .eq 12, 3) := by decide +kernel
theorem dMo_waste_8 : decode mMo_waste.2.1 8 = .ok (.aload_n 0, 1) := by decide +kernel
theorem dMo_waste_9 : decode mMo_waste.2.1 9 = .ok (.iload_n 1, 1) := by decide +kernel
theorem dMo_waste_10 : decode mMo_waste.2.1 10 = .ok (.lload_n 2, 1) := by decide +kernel
theorem dMo_waste_11 : decode mMo_waste.2.1 11 = .ok (.invokevirtual 123, 3) := by decide +kernel
theorem dMo_waste_14 : decode mMo_waste.2.1 14 = .ok (.ifCond .ne 7, 3) := by decide +kernel
theorem dMo_waste_17 : decode mMo_waste.2.1 17 = .ok (.ldc2_w 138, 3) := by decide +kernel
theorem dMo_waste_20 : decode mMo_waste.2.1 20 = .ok (.lreturn, 1) := by decide +kernel
theorem dMo_waste_21 : decode mMo_waste.2.1 21 = .ok (.aload_n 0, 1) := by decide +kernel
theorem dMo_waste_22 : decode mMo_waste.2.1 22 = .ok (.iload_n 1, 1) := by decide +kernel
theorem dMo_waste_23 : decode mMo_waste.2.1 23 = .ok (.lload_n 2, 1) := by decide +kernel
theorem dMo_waste_24 : decode mMo_waste.2.1 24 = .ok (.invokevirtual 135, 3) := by decide +kernel
theorem dMo_waste_27 : decode mMo_waste.2.1 27 = .ok (.aload_n 0, 1) := by decide +kernel
theorem dMo_waste_28 : decode mMo_waste.2.1 28 = .ok (.getfield 23, 3) := by decide +kernel
theorem dMo_waste_31 : decode mMo_waste.2.1 31 = .ok (.iload_n 1, 1) := by decide +kernel
theorem dMo_waste_32 : decode mMo_waste.2.1 32 = .ok (.dup2, 1) := by decide +kernel
theorem dMo_waste_33 : decode mMo_waste.2.1 33 = .ok (.laload, 1) := by decide +kernel
theorem dMo_waste_34 : decode mMo_waste.2.1 34 = .ok (.lload_n 2, 1) := by decide +kernel
theorem dMo_waste_35 : decode mMo_waste.2.1 35 = .ok (.ladd, 1) := by decide +kernel
theorem dMo_waste_36 : decode mMo_waste.2.1 36 = .ok (.lastore, 1) := by decide +kernel
theorem dMo_waste_37 : decode mMo_waste.2.1 37 = .ok (.aload_n 0, 1) := by decide +kernel
theorem dMo_waste_38 : decode mMo_waste.2.1 38 = .ok (.getfield 23, 3) := by decide +kernel
theorem dMo_waste_41 : decode mMo_waste.2.1 41 = .ok (.iload_n 1, 1) := by decide +kernel
theorem dMo_waste_42 : decode mMo_waste.2.1 42 = .ok (.laload, 1) := by decide +kernel
theorem dMo_waste_43 : decode mMo_waste.2.1 43 = .ok (.lreturn, 1) := by decide +kernel
theorem dMo_hold_0 : decode mMo_hold.2.1 0 = .ok (.aload_n 0, 1) := by decide +kernel
theorem dMo_hold_1 : decode mMo_hold.2.1 1 = .ok (.iload_n 1, 1) := by decide +kernel
theorem dMo_hold_2 : decode mMo_hold.2.1 2 = .ok (.invokevirtual 94, 3) := by decide +kernel
theorem dMo_hold_5 : decode mMo_hold.2.1 5 = .ok (.ifCond .ne 5, 3) := by decide +kernel
theorem dMo_hold_8 : decode mMo_hold.2.1 8 = .ok (.iconst 0, 1) := by decide +kernel
theorem dMo_hold_9 : decode mMo_hold.2.1 9 = .ok (.ireturn, 1) := by decide +kernel
theorem dMo_hold_10 : decode mMo_hold.2.1 10 = .ok (.aload_n 0, 1) := by decide +kernel
theorem dMo_hold_11 : decode mMo_hold.2.1 11 = .ok (.getfield 26, 3) := by decide +kernel
theorem dMo_hold_14 : decode mMo_hold.2.1 14 = .ok (.iload_n 1, 1) := by decide +kernel
theorem dMo_hold_15 : decode mMo_hold.2.1 15 = .ok (.iload_n 2, 1) := by decide +kernel
theorem dMo_hold_16 : decode mMo_hold.2.1 16 = .ok (.bastore, 1) := by decide +kernel
theorem dMo_hold_17 : decode mMo_hold.2.1 17 = .ok (.iconst 1, 1) := by decide +kernel
theorem dMo_hold_18 : decode mMo_hold.2.1 18 = .ok (.ireturn, 1) := by decide +kernel
theorem dMo_correct_0 : decode mMo_correct.2.1 0 = .ok (.aload_n 0, 1) := by decide +kernel
theorem dMo_correct_1 : decode mMo_correct.2.1 1 = .ok (.iload_n 1, 1) := by decide +kernel
theorem dMo_correct_2 : decode mMo_correct.2.1 2 = .ok (.iconst 1, 1) := by decide +kernel
theorem dMo_correct_3 : decode mMo_correct.2.1 3 = .ok (.invokevirtual 116, 3) := by decide +kernel
theorem dMo_correct_6 : decode mMo_correct.2.1 6 = .ok (.ifCond .eq 17, 3) := by decide +kernel
theorem dMo_correct_9 : decode mMo_correct.2.1 9 = .ok (.lload_n 2, 1) := by decide +kernel
theorem dMo_correct_10 : decode mMo_correct.2.1 10 = .ok (.lconst 1, 1) := by decide +kernel
theorem dMo_correct_11 : decode mMo_correct.2.1 11 = .ok (.lcmp, 1) := by decide +kernel
theorem dMo_correct_12 : decode mMo_correct.2.1 12 = .ok (.ifCond .lt 11, 3) := by decide +kernel
theorem dMo_correct_15 : decode mMo_correct.2.1 15 = .ok (.lload_n 2, 1) := by decide +kernel
theorem dMo_correct_16 : decode mMo_correct.2.1 16 = .ok (.ldc2_w 98, 3) := by decide +kernel
theorem dMo_correct_19 : decode mMo_correct.2.1 19 = .ok (.lcmp, 1) := by decide +kernel
theorem dMo_correct_20 : decode mMo_correct.2.1 20 = .ok (.ifCond .le 5, 3) := by decide +kernel
theorem dMo_correct_23 : decode mMo_correct.2.1 23 = .ok (.iconst 0, 1) := by decide +kernel
theorem dMo_correct_24 : decode mMo_correct.2.1 24 = .ok (.ireturn, 1) := by decide +kernel
theorem dMo_correct_25 : decode mMo_correct.2.1 25 = .ok (.aload_n 0, 1) := by decide +kernel
theorem dMo_correct_26 : decode mMo_correct.2.1 26 = .ok (.iload_n 1, 1) := by decide +kernel
theorem dMo_correct_27 : decode mMo_correct.2.1 27 = .ok (.invokevirtual 112, 3) := by decide +kernel
theorem dMo_correct_30 : decode mMo_correct.2.1 30 = .ok (.lload_n 2, 1) := by decide +kernel
theorem dMo_correct_31 : decode mMo_correct.2.1 31 = .ok (.ladd, 1) := by decide +kernel
theorem dMo_correct_32 : decode mMo_correct.2.1 32 = .ok (.aload_n 0, 1) := by decide +kernel
theorem dMo_correct_33 : decode mMo_correct.2.1 33 = .ok (.getfield 39, 3) := by decide +kernel
theorem dMo_correct_36 : decode mMo_correct.2.1 36 = .ok (.iload_n 1, 1) := by decide +kernel
theorem dMo_correct_37 : decode mMo_correct.2.1 37 = .ok (.laload, 1) := by decide +kernel
theorem dMo_correct_38 : decode mMo_correct.2.1 38 = .ok (.lsub, 1) := by decide +kernel
theorem dMo_correct_39 : decode mMo_correct.2.1 39 = .ok (.lstore 4, 2) := by decide +kernel
theorem dMo_correct_41 : decode mMo_correct.2.1 41 = .ok (.lload 4, 2) := by decide +kernel
theorem dMo_correct_43 : decode mMo_correct.2.1 43 = .ok (.lconst 0, 1) := by decide +kernel
theorem dMo_correct_44 : decode mMo_correct.2.1 44 = .ok (.lcmp, 1) := by decide +kernel
theorem dMo_correct_45 : decode mMo_correct.2.1 45 = .ok (.ifCond .ge 5, 3) := by decide +kernel
theorem dMo_correct_48 : decode mMo_correct.2.1 48 = .ok (.iconst 0, 1) := by decide +kernel
theorem dMo_correct_49 : decode mMo_correct.2.1 49 = .ok (.ireturn, 1) := by decide +kernel
theorem dMo_correct_50 : decode mMo_correct.2.1 50 = .ok (.aload_n 0, 1) := by decide +kernel
theorem dMo_correct_51 : decode mMo_correct.2.1 51 = .ok (.getfield 39, 3) := by decide +kernel
theorem dMo_correct_54 : decode mMo_correct.2.1 54 = .ok (.iload_n 1, 1) := by decide +kernel
theorem dMo_correct_55 : decode mMo_correct.2.1 55 = .ok (.lload_n 2, 1) := by decide +kernel
theorem dMo_correct_56 : decode mMo_correct.2.1 56 = .ok (.lastore, 1) := by decide +kernel
theorem dMo_correct_57 : decode mMo_correct.2.1 57 = .ok (.aload_n 0, 1) := by decide +kernel
theorem dMo_correct_58 : decode mMo_correct.2.1 58 = .ok (.getfield 13, 3) := by decide +kernel
theorem dMo_correct_61 : decode mMo_correct.2.1 61 = .ok (.iload_n 1, 1) := by decide +kernel
theorem dMo_correct_62 : decode mMo_correct.2.1 62 = .ok (.lload 4, 2) := by decide +kernel
theorem dMo_correct_64 : decode mMo_correct.2.1 64 = .ok (.lconst 0, 1) := by decide +kernel
theorem dMo_correct_65 : decode mMo_correct.2.1 65 = .ok (.lcmp, 1) := by decide +kernel
theorem dMo_correct_66 : decode mMo_correct.2.1 66 = .ok (.ifCond .ne 7, 3) := by decide +kernel
theorem dMo_correct_69 : decode mMo_correct.2.1 69 = .ok (.iconst 0, 1) := by decide +kernel
theorem dMo_correct_70 : decode mMo_correct.2.1 70 = .ok (.goto 4, 3) := by decide +kernel
theorem dMo_correct_73 : decode mMo_correct.2.1 73 = .ok (.iconst 1, 1) := by decide +kernel
theorem dMo_correct_74 : decode mMo_correct.2.1 74 = .ok (.iastore, 1) := by decide +kernel
theorem dMo_correct_75 : decode mMo_correct.2.1 75 = .ok (.aload_n 0, 1) := by decide +kernel
theorem dMo_correct_76 : decode mMo_correct.2.1 76 = .ok (.getfield 16, 3) := by decide +kernel
theorem dMo_correct_79 : decode mMo_correct.2.1 79 = .ok (.bipush 81, 2) := by decide +kernel
theorem dMo_correct_81 : decode mMo_correct.2.1 81 = .ok (.iload_n 1, 1) := by decide +kernel
theorem dMo_correct_82 : decode mMo_correct.2.1 82 = .ok (.imul, 1) := by decide +kernel
theorem dMo_correct_83 : decode mMo_correct.2.1 83 = .ok (.iload_n 1, 1) := by decide +kernel
theorem dMo_correct_84 : decode mMo_correct.2.1 84 = .ok (.iastore, 1) := by decide +kernel
theorem dMo_correct_85 : decode mMo_correct.2.1 85 = .ok (.aload_n 0, 1) := by decide +kernel
theorem dMo_correct_86 : decode mMo_correct.2.1 86 = .ok (.getfield 19, 3) := by decide +kernel
theorem dMo_correct_89 : decode mMo_correct.2.1 89 = .ok (.bipush 81, 2) := by decide +kernel
theorem dMo_correct_91 : decode mMo_correct.2.1 91 = .ok (.iload_n 1, 1) := by decide +kernel
theorem dMo_correct_92 : decode mMo_correct.2.1 92 = .ok (.imul, 1) := by decide +kernel
theorem dMo_correct_93 : decode mMo_correct.2.1 93 = .ok (.lload 4, 2) := by decide +kernel
theorem dMo_correct_95 : decode mMo_correct.2.1 95 = .ok (.lastore, 1) := by decide +kernel
theorem dMo_correct_96 : decode mMo_correct.2.1 96 = .ok (.iconst 1, 1) := by decide +kernel
theorem dMo_correct_97 : decode mMo_correct.2.1 97 = .ok (.ireturn, 1) := by decide +kernel
theorem dMo_told_0 : decode mMo_told.2.1 0 = .ok (.aload_n 0, 1) := by decide +kernel
theorem dMo_told_1 : decode mMo_told.2.1 1 = .ok (.iload_n 1, 1) := by decide +kernel
theorem dMo_told_2 : decode mMo_told.2.1 2 = .ok (.invokevirtual 94, 3) := by decide +kernel
theorem dMo_told_5 : decode mMo_told.2.1 5 = .ok (.ifCond .ne 7, 3) := by decide +kernel
theorem dMo_told_8 : decode mMo_told.2.1 8 = .ok (.ldc2_w 138, 3) := by decide +kernel
theorem dMo_told_11 : decode mMo_told.2.1 11 = .ok (.lreturn, 1) := by decide +kernel
theorem dMo_told_12 : decode mMo_told.2.1 12 = .ok (.iload_n 2, 1) := by decide +kernel
theorem dMo_told_13 : decode mMo_told.2.1 13 = .ok (.tableswitch 126 0 8 #[51, 59, 65, 73, 80, 95, 103, 111, 118], 51) := by decide +kernel
theorem dMo_told_64 : decode mMo_told.2.1 64 = .ok (.aload_n 0, 1) := by decide +kernel
theorem dMo_told_65 : decode mMo_told.2.1 65 = .ok (.getfield 7, 3) := by decide +kernel
theorem dMo_told_68 : decode mMo_told.2.1 68 = .ok (.iload_n 1, 1) := by decide +kernel
theorem dMo_told_69 : decode mMo_told.2.1 69 = .ok (.iaload, 1) := by decide +kernel
theorem dMo_told_70 : decode mMo_told.2.1 70 = .ok (.i2l, 1) := by decide +kernel
theorem dMo_told_71 : decode mMo_told.2.1 71 = .ok (.lreturn, 1) := by decide +kernel
theorem dMo_told_72 : decode mMo_told.2.1 72 = .ok (.aload_n 0, 1) := by decide +kernel
theorem dMo_told_73 : decode mMo_told.2.1 73 = .ok (.iload_n 1, 1) := by decide +kernel
theorem dMo_told_74 : decode mMo_told.2.1 74 = .ok (.invokevirtual 112, 3) := by decide +kernel
theorem dMo_told_77 : decode mMo_told.2.1 77 = .ok (.lreturn, 1) := by decide +kernel
theorem dMo_told_78 : decode mMo_told.2.1 78 = .ok (.aload_n 0, 1) := by decide +kernel
theorem dMo_told_79 : decode mMo_told.2.1 79 = .ok (.getfield 13, 3) := by decide +kernel
theorem dMo_told_82 : decode mMo_told.2.1 82 = .ok (.iload_n 1, 1) := by decide +kernel
theorem dMo_told_83 : decode mMo_told.2.1 83 = .ok (.iaload, 1) := by decide +kernel
theorem dMo_told_84 : decode mMo_told.2.1 84 = .ok (.i2l, 1) := by decide +kernel
theorem dMo_told_85 : decode mMo_told.2.1 85 = .ok (.lreturn, 1) := by decide +kernel
theorem dMo_told_86 : decode mMo_told.2.1 86 = .ok (.aload_n 0, 1) := by decide +kernel
theorem dMo_told_87 : decode mMo_told.2.1 87 = .ok (.getfield 23, 3) := by decide +kernel
theorem dMo_told_90 : decode mMo_told.2.1 90 = .ok (.iload_n 1, 1) := by decide +kernel
theorem dMo_told_91 : decode mMo_told.2.1 91 = .ok (.laload, 1) := by decide +kernel
theorem dMo_told_92 : decode mMo_told.2.1 92 = .ok (.lreturn, 1) := by decide +kernel
theorem dMo_told_93 : decode mMo_told.2.1 93 = .ok (.aload_n 0, 1) := by decide +kernel
theorem dMo_told_94 : decode mMo_told.2.1 94 = .ok (.getfield 26, 3) := by decide +kernel
theorem dMo_told_97 : decode mMo_told.2.1 97 = .ok (.iload_n 1, 1) := by decide +kernel
theorem dMo_told_98 : decode mMo_told.2.1 98 = .ok (.baload, 1) := by decide +kernel
theorem dMo_told_99 : decode mMo_told.2.1 99 = .ok (.ifCond .eq 7, 3) := by decide +kernel
theorem dMo_told_102 : decode mMo_told.2.1 102 = .ok (.lconst 1, 1) := by decide +kernel
theorem dMo_told_103 : decode mMo_told.2.1 103 = .ok (.goto 4, 3) := by decide +kernel
theorem dMo_told_106 : decode mMo_told.2.1 106 = .ok (.lconst 0, 1) := by decide +kernel
theorem dMo_told_107 : decode mMo_told.2.1 107 = .ok (.lreturn, 1) := by decide +kernel
theorem dMo_told_108 : decode mMo_told.2.1 108 = .ok (.aload_n 0, 1) := by decide +kernel
theorem dMo_told_109 : decode mMo_told.2.1 109 = .ok (.getfield 30, 3) := by decide +kernel
theorem dMo_told_112 : decode mMo_told.2.1 112 = .ok (.iload_n 1, 1) := by decide +kernel
theorem dMo_told_113 : decode mMo_told.2.1 113 = .ok (.iaload, 1) := by decide +kernel
theorem dMo_told_114 : decode mMo_told.2.1 114 = .ok (.i2l, 1) := by decide +kernel
theorem dMo_told_115 : decode mMo_told.2.1 115 = .ok (.lreturn, 1) := by decide +kernel
theorem dMo_told_116 : decode mMo_told.2.1 116 = .ok (.aload_n 0, 1) := by decide +kernel
theorem dMo_told_117 : decode mMo_told.2.1 117 = .ok (.getfield 33, 3) := by decide +kernel
theorem dMo_told_120 : decode mMo_told.2.1 120 = .ok (.iload_n 1, 1) := by decide +kernel
theorem dMo_told_121 : decode mMo_told.2.1 121 = .ok (.iaload, 1) := by decide +kernel
theorem dMo_told_122 : decode mMo_told.2.1 122 = .ok (.i2l, 1) := by decide +kernel
theorem dMo_told_123 : decode mMo_told.2.1 123 = .ok (.lreturn, 1) := by decide +kernel
theorem dMo_told_124 : decode mMo_told.2.1 124 = .ok (.aload_n 0, 1) := by decide +kernel
theorem dMo_told_125 : decode mMo_told.2.1 125 = .ok (.getfield 39, 3) := by decide +kernel
theorem dMo_told_128 : decode mMo_told.2.1 128 = .ok (.iload_n 1, 1) := by decide +kernel
theorem dMo_told_129 : decode mMo_told.2.1 129 = .ok (.laload, 1) := by decide +kernel
theorem dMo_told_130 : decode mMo_told.2.1 130 = .ok (.lreturn, 1) := by decide +kernel
theorem dMo_told_131 : decode mMo_told.2.1 131 = .ok (.aload_n 0, 1) := by decide +kernel
theorem dMo_told_132 : decode mMo_told.2.1 132 = .ok (.getfield 36, 3) := by decide +kernel
theorem dMo_told_135 : decode mMo_told.2.1 135 = .ok (.iload_n 1, 1) := by decide +kernel
theorem dMo_told_136 : decode mMo_told.2.1 136 = .ok (.iaload, 1) := by decide +kernel
theorem dMo_told_137 : decode mMo_told.2.1 137 = .ok (.i2l, 1) := by decide +kernel
theorem dMo_told_138 : decode mMo_told.2.1 138 = .ok (.lreturn, 1) := by decide +kernel
theorem dMo_told_139 : decode mMo_told.2.1 139 = .ok (.ldc2_w 138, 3) := by decide +kernel
theorem dMo_told_142 : decode mMo_told.2.1 142 = .ok (.lreturn, 1) := by decide +kernel
theorem dMo_layer_0 : decode mMo_layer.2.1 0 = .ok (.aload_n 0, 1) := by decide +kernel
theorem dMo_layer_1 : decode mMo_layer.2.1 1 = .ok (.iload_n 1, 1) := by decide +kernel
theorem dMo_layer_2 : decode mMo_layer.2.1 2 = .ok (.invokevirtual 94, 3) := by decide +kernel
theorem dMo_layer_5 : decode mMo_layer.2.1 5 = .ok (.ifCond .eq 17, 3) := by decide +kernel
theorem dMo_layer_8 : decode mMo_layer.2.1 8 = .ok (.iload_n 2, 1) := by decide +kernel
theorem dMo_layer_9 : decode mMo_layer.2.1 9 = .ok (.ifCond .lt 13, 3) := by decide +kernel
theorem dMo_layer_12 : decode mMo_layer.2.1 12 = .ok (.iload_n 2, 1) := by decide +kernel
theorem dMo_layer_13 : decode mMo_layer.2.1 13 = .ok (.aload_n 0, 1) := by decide +kernel
theorem dMo_layer_14 : decode mMo_layer.2.1 14 = .ok (.getfield 13, 3) := by decide +kernel
theorem dMo_layer_17 : decode mMo_layer.2.1 17 = .ok (.iload_n 1, 1) := by decide +kernel
theorem dMo_layer_18 : decode mMo_layer.2.1 18 = .ok (.iaload, 1) := by decide +kernel
theorem dMo_layer_19 : decode mMo_layer.2.1 19 = .ok (.if_icmp .lt 7, 3) := by decide +kernel
theorem dMo_layer_22 : decode mMo_layer.2.1 22 = .ok (.ldc2_w 138, 3) := by decide +kernel
theorem dMo_layer_25 : decode mMo_layer.2.1 25 = .ok (.lreturn, 1) := by decide +kernel
theorem dMo_layer_26 : decode mMo_layer.2.1 26 = .ok (.iload_n 3, 1) := by decide +kernel
theorem dMo_layer_27 : decode mMo_layer.2.1 27 = .ok (.ifCond .ne 18, 3) := by decide +kernel
theorem dMo_layer_30 : decode mMo_layer.2.1 30 = .ok (.aload_n 0, 1) := by decide +kernel
theorem dMo_layer_31 : decode mMo_layer.2.1 31 = .ok (.getfield 16, 3) := by decide +kernel
theorem dMo_layer_34 : decode mMo_layer.2.1 34 = .ok (.bipush 81, 2) := by decide +kernel
theorem dMo_layer_36 : decode mMo_layer.2.1 36 = .ok (.iload_n 1, 1) := by decide +kernel
theorem dMo_layer_37 : decode mMo_layer.2.1 37 = .ok (.imul, 1) := by decide +kernel
theorem dMo_layer_38 : decode mMo_layer.2.1 38 = .ok (.iload_n 2, 1) := by decide +kernel
theorem dMo_layer_39 : decode mMo_layer.2.1 39 = .ok (.iadd, 1) := by decide +kernel
theorem dMo_layer_40 : decode mMo_layer.2.1 40 = .ok (.iaload, 1) := by decide +kernel
theorem dMo_layer_41 : decode mMo_layer.2.1 41 = .ok (.i2l, 1) := by decide +kernel
theorem dMo_layer_42 : decode mMo_layer.2.1 42 = .ok (.goto 25, 3) := by decide +kernel
theorem dMo_layer_45 : decode mMo_layer.2.1 45 = .ok (.iload_n 3, 1) := by decide +kernel
theorem dMo_layer_46 : decode mMo_layer.2.1 46 = .ok (.iconst 1, 1) := by decide +kernel
theorem dMo_layer_47 : decode mMo_layer.2.1 47 = .ok (.if_icmp .ne 17, 3) := by decide +kernel
theorem dMo_layer_50 : decode mMo_layer.2.1 50 = .ok (.aload_n 0, 1) := by decide +kernel
theorem dMo_layer_51 : decode mMo_layer.2.1 51 = .ok (.getfield 19, 3) := by decide +kernel
theorem dMo_layer_54 : decode mMo_layer.2.1 54 = .ok (.bipush 81, 2) := by decide +kernel
theorem dMo_layer_56 : decode mMo_layer.2.1 56 = .ok (.iload_n 1, 1) := by decide +kernel
theorem dMo_layer_57 : decode mMo_layer.2.1 57 = .ok (.imul, 1) := by decide +kernel
theorem dMo_layer_58 : decode mMo_layer.2.1 58 = .ok (.iload_n 2, 1) := by decide +kernel
theorem dMo_layer_59 : decode mMo_layer.2.1 59 = .ok (.iadd, 1) := by decide +kernel
theorem dMo_layer_60 : decode mMo_layer.2.1 60 = .ok (.laload, 1) := by decide +kernel
theorem dMo_layer_61 : decode mMo_layer.2.1 61 = .ok (.goto 6, 3) := by decide +kernel
theorem dMo_layer_64 : decode mMo_layer.2.1 64 = .ok (.ldc2_w 138, 3) := by decide +kernel
theorem dMo_layer_67 : decode mMo_layer.2.1 67 = .ok (.lreturn, 1) := by decide +kernel
theorem dMo_share_0 : decode mMo_share.2.1 0 = .ok (.aload_n 0, 1) := by decide +kernel
theorem dMo_share_1 : decode mMo_share.2.1 1 = .ok (.iload_n 1, 1) := by decide +kernel
theorem dMo_share_2 : decode mMo_share.2.1 2 = .ok (.invokevirtual 94, 3) := by decide +kernel
theorem dMo_share_5 : decode mMo_share.2.1 5 = .ok (.ifCond .eq 30, 3) := by decide +kernel
theorem dMo_share_8 : decode mMo_share.2.1 8 = .ok (.aload_n 0, 1) := by decide +kernel
theorem dMo_share_9 : decode mMo_share.2.1 9 = .ok (.iload_n 2, 1) := by decide +kernel
theorem dMo_share_10 : decode mMo_share.2.1 10 = .ok (.iconst 1, 1) := by decide +kernel
theorem dMo_share_11 : decode mMo_share.2.1 11 = .ok (.invokevirtual 116, 3) := by decide +kernel
theorem dMo_share_14 : decode mMo_share.2.1 14 = .ok (.ifCond .eq 21, 3) := by decide +kernel
theorem dMo_share_17 : decode mMo_share.2.1 17 = .ok (.aload_n 0, 1) := by decide +kernel
theorem dMo_share_18 : decode mMo_share.2.1 18 = .ok (.getfield 13, 3) := by decide +kernel
theorem dMo_share_21 : decode mMo_share.2.1 21 = .ok (.iload_n 1, 1) := by decide +kernel
theorem dMo_share_22 : decode mMo_share.2.1 22 = .ok (.iaload, 1) := by decide +kernel
theorem dMo_share_23 : decode mMo_share.2.1 23 = .ok (.ifCond .eq 12, 3) := by decide +kernel
theorem dMo_share_26 : decode mMo_share.2.1 26 = .ok (.iload_n 3, 1) := by decide +kernel
theorem dMo_share_27 : decode mMo_share.2.1 27 = .ok (.ifCond .eq 12, 3) := by decide +kernel
theorem dMo_share_30 : decode mMo_share.2.1 30 = .ok (.iload_n 3, 1) := by decide +kernel
theorem dMo_share_31 : decode mMo_share.2.1 31 = .ok (.iconst 1, 1) := by decide +kernel
theorem dMo_share_32 : decode mMo_share.2.1 32 = .ok (.if_icmp .eq 7, 3) := by decide +kernel
theorem dMo_share_35 : decode mMo_share.2.1 35 = .ok (.ldc2_w 138, 3) := by decide +kernel
theorem dMo_share_38 : decode mMo_share.2.1 38 = .ok (.lreturn, 1) := by decide +kernel
theorem dMo_share_39 : decode mMo_share.2.1 39 = .ok (.aload_n 0, 1) := by decide +kernel
theorem dMo_share_40 : decode mMo_share.2.1 40 = .ok (.iload_n 1, 1) := by decide +kernel
theorem dMo_share_41 : decode mMo_share.2.1 41 = .ok (.iload_n 2, 1) := by decide +kernel
theorem dMo_share_42 : decode mMo_share.2.1 42 = .ok (.invokevirtual 140, 3) := by decide +kernel
theorem dMo_share_45 : decode mMo_share.2.1 45 = .ok (.lstore 4, 2) := by decide +kernel
theorem dMo_share_47 : decode mMo_share.2.1 47 = .ok (.aload_n 0, 1) := by decide +kernel
theorem dMo_share_48 : decode mMo_share.2.1 48 = .ok (.iload_n 1, 1) := by decide +kernel
theorem dMo_share_49 : decode mMo_share.2.1 49 = .ok (.invokevirtual 112, 3) := by decide +kernel
theorem dMo_share_52 : decode mMo_share.2.1 52 = .ok (.lstore 6, 2) := by decide +kernel
theorem dMo_share_54 : decode mMo_share.2.1 54 = .ok (.lload 6, 2) := by decide +kernel
theorem dMo_share_56 : decode mMo_share.2.1 56 = .ok (.lstore 8, 2) := by decide +kernel
theorem dMo_share_58 : decode mMo_share.2.1 58 = .ok (.lload 4, 2) := by decide +kernel
theorem dMo_share_60 : decode mMo_share.2.1 60 = .ok (.lstore 10, 2) := by decide +kernel
theorem dMo_share_62 : decode mMo_share.2.1 62 = .ok (.lload 10, 2) := by decide +kernel
theorem dMo_share_64 : decode mMo_share.2.1 64 = .ok (.lconst 0, 1) := by decide +kernel
theorem dMo_share_65 : decode mMo_share.2.1 65 = .ok (.lcmp, 1) := by decide +kernel
theorem dMo_share_66 : decode mMo_share.2.1 66 = .ok (.ifCond .le 21, 3) := by decide +kernel
theorem dMo_share_69 : decode mMo_share.2.1 69 = .ok (.lload 8, 2) := by decide +kernel
theorem dMo_share_71 : decode mMo_share.2.1 71 = .ok (.lload 10, 2) := by decide +kernel
theorem dMo_share_73 : decode mMo_share.2.1 73 = .ok (.lrem, 1) := by decide +kernel
theorem dMo_share_74 : decode mMo_share.2.1 74 = .ok (.lstore 12, 2) := by decide +kernel
theorem dMo_share_76 : decode mMo_share.2.1 76 = .ok (.lload 10, 2) := by decide +kernel
theorem dMo_share_78 : decode mMo_share.2.1 78 = .ok (.lstore 8, 2) := by decide +kernel
theorem dMo_share_80 : decode mMo_share.2.1 80 = .ok (.lload 12, 2) := by decide +kernel
theorem dMo_share_82 : decode mMo_share.2.1 82 = .ok (.lstore 10, 2) := by decide +kernel
theorem dMo_share_84 : decode mMo_share.2.1 84 = .ok (.goto (-22), 3) := by decide +kernel
theorem dMo_share_87 : decode mMo_share.2.1 87 = .ok (.iload_n 3, 1) := by decide +kernel
theorem dMo_share_88 : decode mMo_share.2.1 88 = .ok (.ifCond .ne 11, 3) := by decide +kernel
theorem dMo_share_91 : decode mMo_share.2.1 91 = .ok (.lload 4, 2) := by decide +kernel
theorem dMo_share_93 : decode mMo_share.2.1 93 = .ok (.lload 8, 2) := by decide +kernel
theorem dMo_share_95 : decode mMo_share.2.1 95 = .ok (.ldiv, 1) := by decide +kernel
theorem dMo_share_96 : decode mMo_share.2.1 96 = .ok (.goto 8, 3) := by decide +kernel
theorem dMo_share_99 : decode mMo_share.2.1 99 = .ok (.lload 6, 2) := by decide +kernel
theorem dMo_share_101 : decode mMo_share.2.1 101 = .ok (.lload 8, 2) := by decide +kernel
theorem dMo_share_103 : decode mMo_share.2.1 103 = .ok (.ldiv, 1) := by decide +kernel
theorem dMo_share_104 : decode mMo_share.2.1 104 = .ok (.lreturn, 1) := by decide +kernel
theorem dMo_gramsFrom_0 : decode mMo_gramsFrom.2.1 0 = .ok (.lconst 0, 1) := by decide +kernel
theorem dMo_gramsFrom_1 : decode mMo_gramsFrom.2.1 1 = .ok (.lstore_n 3, 1) := by decide +kernel
theorem dMo_gramsFrom_2 : decode mMo_gramsFrom.2.1 2 = .ok (.iconst 0, 1) := by decide +kernel
theorem dMo_gramsFrom_3 : decode mMo_gramsFrom.2.1 3 = .ok (.istore 5, 2) := by decide +kernel
theorem dMo_gramsFrom_5 : decode mMo_gramsFrom.2.1 5 = .ok (.iload 5, 2) := by decide +kernel
theorem dMo_gramsFrom_7 : decode mMo_gramsFrom.2.1 7 = .ok (.aload_n 0, 1) := by decide +kernel
theorem dMo_gramsFrom_8 : decode mMo_gramsFrom.2.1 8 = .ok (.getfield 13, 3) := by decide +kernel
theorem dMo_gramsFrom_11 : decode mMo_gramsFrom.2.1 11 = .ok (.iload_n 1, 1) := by decide +kernel
theorem dMo_gramsFrom_12 : decode mMo_gramsFrom.2.1 12 = .ok (.iaload, 1) := by decide +kernel
theorem dMo_gramsFrom_13 : decode mMo_gramsFrom.2.1 13 = .ok (.if_icmp .ge 44, 3) := by decide +kernel
theorem dMo_gramsFrom_16 : decode mMo_gramsFrom.2.1 16 = .ok (.lload_n 3, 1) := by decide +kernel
theorem dMo_gramsFrom_17 : decode mMo_gramsFrom.2.1 17 = .ok (.aload_n 0, 1) := by decide +kernel
theorem dMo_gramsFrom_18 : decode mMo_gramsFrom.2.1 18 = .ok (.getfield 16, 3) := by decide +kernel
theorem dMo_gramsFrom_21 : decode mMo_gramsFrom.2.1 21 = .ok (.bipush 81, 2) := by decide +kernel
theorem dMo_gramsFrom_23 : decode mMo_gramsFrom.2.1 23 = .ok (.iload_n 1, 1) := by decide +kernel
theorem dMo_gramsFrom_24 : decode mMo_gramsFrom.2.1 24 = .ok (.imul, 1) := by decide +kernel
theorem dMo_gramsFrom_25 : decode mMo_gramsFrom.2.1 25 = .ok (.iload 5, 2) := by decide +kernel
theorem dMo_gramsFrom_27 : decode mMo_gramsFrom.2.1 27 = .ok (.iadd, 1) := by decide +kernel
theorem dMo_gramsFrom_28 : decode mMo_gramsFrom.2.1 28 = .ok (.iaload, 1) := by decide +kernel
theorem dMo_gramsFrom_29 : decode mMo_gramsFrom.2.1 29 = .ok (.iload_n 2, 1) := by decide +kernel
theorem dMo_gramsFrom_30 : decode mMo_gramsFrom.2.1 30 = .ok (.if_icmp .ne 18, 3) := by decide +kernel
theorem dMo_gramsFrom_33 : decode mMo_gramsFrom.2.1 33 = .ok (.aload_n 0, 1) := by decide +kernel
theorem dMo_gramsFrom_34 : decode mMo_gramsFrom.2.1 34 = .ok (.getfield 19, 3) := by decide +kernel
theorem dMo_gramsFrom_37 : decode mMo_gramsFrom.2.1 37 = .ok (.bipush 81, 2) := by decide +kernel
theorem dMo_gramsFrom_39 : decode mMo_gramsFrom.2.1 39 = .ok (.iload_n 1, 1) := by decide +kernel
theorem dMo_gramsFrom_40 : decode mMo_gramsFrom.2.1 40 = .ok (.imul, 1) := by decide +kernel
theorem dMo_gramsFrom_41 : decode mMo_gramsFrom.2.1 41 = .ok (.iload 5, 2) := by decide +kernel
theorem dMo_gramsFrom_43 : decode mMo_gramsFrom.2.1 43 = .ok (.iadd, 1) := by decide +kernel
theorem dMo_gramsFrom_44 : decode mMo_gramsFrom.2.1 44 = .ok (.laload, 1) := by decide +kernel
theorem dMo_gramsFrom_45 : decode mMo_gramsFrom.2.1 45 = .ok (.goto 4, 3) := by decide +kernel
theorem dMo_gramsFrom_48 : decode mMo_gramsFrom.2.1 48 = .ok (.lconst 0, 1) := by decide +kernel
theorem dMo_gramsFrom_49 : decode mMo_gramsFrom.2.1 49 = .ok (.ladd, 1) := by decide +kernel
theorem dMo_gramsFrom_50 : decode mMo_gramsFrom.2.1 50 = .ok (.lstore_n 3, 1) := by decide +kernel
theorem dMo_gramsFrom_51 : decode mMo_gramsFrom.2.1 51 = .ok (.iinc 5 1, 3) := by decide +kernel
theorem dMo_gramsFrom_54 : decode mMo_gramsFrom.2.1 54 = .ok (.goto (-49), 3) := by decide +kernel
theorem dMo_gramsFrom_57 : decode mMo_gramsFrom.2.1 57 = .ok (.lload_n 3, 1) := by decide +kernel
theorem dMo_gramsFrom_58 : decode mMo_gramsFrom.2.1 58 = .ok (.lreturn, 1) := by decide +kernel
theorem dMo_back_0 : decode mMo_back.2.1 0 = .ok (.aload_n 0, 1) := by decide +kernel
theorem dMo_back_1 : decode mMo_back.2.1 1 = .ok (.iload_n 1, 1) := by decide +kernel
theorem dMo_back_2 : decode mMo_back.2.1 2 = .ok (.invokevirtual 94, 3) := by decide +kernel
theorem dMo_back_5 : decode mMo_back.2.1 5 = .ok (.ifCond .eq 7, 3) := by decide +kernel
theorem dMo_back_8 : decode mMo_back.2.1 8 = .ok (.iload_n 2, 1) := by decide +kernel
theorem dMo_back_9 : decode mMo_back.2.1 9 = .ok (.ifCond .ge 5, 3) := by decide +kernel
theorem dMo_back_12 : decode mMo_back.2.1 12 = .ok (.iconst (-1), 1) := by decide +kernel
theorem dMo_back_13 : decode mMo_back.2.1 13 = .ok (.ireturn, 1) := by decide +kernel
theorem dMo_back_14 : decode mMo_back.2.1 14 = .ok (.iload_n 2, 1) := by decide +kernel
theorem dMo_back_15 : decode mMo_back.2.1 15 = .ok (.istore_n 3, 1) := by decide +kernel
theorem dMo_back_16 : decode mMo_back.2.1 16 = .ok (.iconst 0, 1) := by decide +kernel
theorem dMo_back_17 : decode mMo_back.2.1 17 = .ok (.istore 4, 2) := by decide +kernel
theorem dMo_back_19 : decode mMo_back.2.1 19 = .ok (.iload 4, 2) := by decide +kernel
theorem dMo_back_21 : decode mMo_back.2.1 21 = .ok (.aload_n 0, 1) := by decide +kernel
theorem dMo_back_22 : decode mMo_back.2.1 22 = .ok (.getfield 90, 3) := by decide +kernel
theorem dMo_back_25 : decode mMo_back.2.1 25 = .ok (.if_icmp .ge 31, 3) := by decide +kernel
theorem dMo_back_28 : decode mMo_back.2.1 28 = .ok (.aload_n 0, 1) := by decide +kernel
theorem dMo_back_29 : decode mMo_back.2.1 29 = .ok (.iload_n 1, 1) := by decide +kernel
theorem dMo_back_30 : decode mMo_back.2.1 30 = .ok (.iload 4, 2) := by decide +kernel
theorem dMo_back_32 : decode mMo_back.2.1 32 = .ok (.invokevirtual 140, 3) := by decide +kernel
theorem dMo_back_35 : decode mMo_back.2.1 35 = .ok (.lconst 0, 1) := by decide +kernel
theorem dMo_back_36 : decode mMo_back.2.1 36 = .ok (.lcmp, 1) := by decide +kernel
theorem dMo_back_37 : decode mMo_back.2.1 37 = .ok (.ifCond .le 13, 3) := by decide +kernel
theorem dMo_back_40 : decode mMo_back.2.1 40 = .ok (.iload_n 3, 1) := by decide +kernel
theorem dMo_back_41 : decode mMo_back.2.1 41 = .ok (.ifCond .ne 6, 3) := by decide +kernel
theorem dMo_back_44 : decode mMo_back.2.1 44 = .ok (.iload 4, 2) := by decide +kernel
theorem dMo_back_46 : decode mMo_back.2.1 46 = .ok (.ireturn, 1) := by decide +kernel
theorem dMo_back_47 : decode mMo_back.2.1 47 = .ok (.iinc 3 (-1), 3) := by decide +kernel
theorem dMo_back_50 : decode mMo_back.2.1 50 = .ok (.iinc 4 1, 3) := by decide +kernel
theorem dMo_back_53 : decode mMo_back.2.1 53 = .ok (.goto (-34), 3) := by decide +kernel
theorem dMo_back_56 : decode mMo_back.2.1 56 = .ok (.iconst (-1), 1) := by decide +kernel
theorem dMo_back_57 : decode mMo_back.2.1 57 = .ok (.ireturn, 1) := by decide +kernel
theorem dMo_recall_0 : decode mMo_recall.2.1 0 = .ok (.aload_n 0, 1) := by decide +kernel
theorem dMo_recall_1 : decode mMo_recall.2.1 1 = .ok (.iload_n 1, 1) := by decide +kernel
theorem dMo_recall_2 : decode mMo_recall.2.1 2 = .ok (.iconst 1, 1) := by decide +kernel
theorem dMo_recall_3 : decode mMo_recall.2.1 3 = .ok (.invokevirtual 116, 3) := by decide +kernel
theorem dMo_recall_6 : decode mMo_recall.2.1 6 = .ok (.ifCond .ne 5, 3) := by decide +kernel
theorem dMo_recall_9 : decode mMo_recall.2.1 9 = .ok (.iconst (-1), 1) := by decide +kernel
theorem dMo_recall_10 : decode mMo_recall.2.1 10 = .ok (.ireturn, 1) := by decide +kernel
theorem dMo_recall_11 : decode mMo_recall.2.1 11 = .ok (.iconst 0, 1) := by decide +kernel
theorem dMo_recall_12 : decode mMo_recall.2.1 12 = .ok (.istore_n 2, 1) := by decide +kernel
theorem dMo_recall_13 : decode mMo_recall.2.1 13 = .ok (.iconst 0, 1) := by decide +kernel
theorem dMo_recall_14 : decode mMo_recall.2.1 14 = .ok (.istore_n 3, 1) := by decide +kernel
theorem dMo_recall_15 : decode mMo_recall.2.1 15 = .ok (.iload_n 3, 1) := by decide +kernel
theorem dMo_recall_16 : decode mMo_recall.2.1 16 = .ok (.bipush 100, 2) := by decide +kernel
theorem dMo_recall_18 : decode mMo_recall.2.1 18 = .ok (.if_icmp .ge 26, 3) := by decide +kernel
theorem dMo_recall_21 : decode mMo_recall.2.1 21 = .ok (.iload_n 2, 1) := by decide +kernel
theorem dMo_recall_22 : decode mMo_recall.2.1 22 = .ok (.aload_n 0, 1) := by decide +kernel
theorem dMo_recall_23 : decode mMo_recall.2.1 23 = .ok (.iload_n 3, 1) := by decide +kernel
theorem dMo_recall_24 : decode mMo_recall.2.1 24 = .ok (.iload_n 1, 1) := by decide +kernel
theorem dMo_recall_25 : decode mMo_recall.2.1 25 = .ok (.invokevirtual 144, 3) := by decide +kernel
theorem dMo_recall_28 : decode mMo_recall.2.1 28 = .ok (.ifCond .le 7, 3) := by decide +kernel
theorem dMo_recall_31 : decode mMo_recall.2.1 31 = .ok (.iconst 1, 1) := by decide +kernel
theorem dMo_recall_32 : decode mMo_recall.2.1 32 = .ok (.goto 4, 3) := by decide +kernel
theorem dMo_recall_35 : decode mMo_recall.2.1 35 = .ok (.iconst 0, 1) := by decide +kernel
theorem dMo_recall_36 : decode mMo_recall.2.1 36 = .ok (.iadd, 1) := by decide +kernel
theorem dMo_recall_37 : decode mMo_recall.2.1 37 = .ok (.istore_n 2, 1) := by decide +kernel
theorem dMo_recall_38 : decode mMo_recall.2.1 38 = .ok (.iinc 3 1, 3) := by decide +kernel
theorem dMo_recall_41 : decode mMo_recall.2.1 41 = .ok (.goto (-26), 3) := by decide +kernel
theorem dMo_recall_44 : decode mMo_recall.2.1 44 = .ok (.iload_n 2, 1) := by decide +kernel
theorem dMo_recall_45 : decode mMo_recall.2.1 45 = .ok (.ireturn, 1) := by decide +kernel
theorem dMo_boxesOf_0 : decode mMo_boxesOf.2.1 0 = .ok (.iconst 0, 1) := by decide +kernel
theorem dMo_boxesOf_1 : decode mMo_boxesOf.2.1 1 = .ok (.istore_n 3, 1) := by decide +kernel
theorem dMo_boxesOf_2 : decode mMo_boxesOf.2.1 2 = .ok (.iconst 0, 1) := by decide +kernel
theorem dMo_boxesOf_3 : decode mMo_boxesOf.2.1 3 = .ok (.istore 4, 2) := by decide +kernel
theorem dMo_boxesOf_5 : decode mMo_boxesOf.2.1 5 = .ok (.iload 4, 2) := by decide +kernel
theorem dMo_boxesOf_7 : decode mMo_boxesOf.2.1 7 = .ok (.aload_n 0, 1) := by decide +kernel
theorem dMo_boxesOf_8 : decode mMo_boxesOf.2.1 8 = .ok (.getfield 90, 3) := by decide +kernel
theorem dMo_boxesOf_11 : decode mMo_boxesOf.2.1 11 = .ok (.if_icmp .ge 51, 3) := by decide +kernel
theorem dMo_boxesOf_14 : decode mMo_boxesOf.2.1 14 = .ok (.iload_n 3, 1) := by decide +kernel
theorem dMo_boxesOf_15 : decode mMo_boxesOf.2.1 15 = .ok (.aload_n 0, 1) := by decide +kernel
theorem dMo_boxesOf_16 : decode mMo_boxesOf.2.1 16 = .ok (.getfield 7, 3) := by decide +kernel
theorem dMo_boxesOf_19 : decode mMo_boxesOf.2.1 19 = .ok (.iload 4, 2) := by decide +kernel
theorem dMo_boxesOf_21 : decode mMo_boxesOf.2.1 21 = .ok (.iaload, 1) := by decide +kernel
theorem dMo_boxesOf_22 : decode mMo_boxesOf.2.1 22 = .ok (.iconst 3, 1) := by decide +kernel
theorem dMo_boxesOf_23 : decode mMo_boxesOf.2.1 23 = .ok (.if_icmp .ne 30, 3) := by decide +kernel
theorem dMo_boxesOf_26 : decode mMo_boxesOf.2.1 26 = .ok (.aload_n 0, 1) := by decide +kernel
theorem dMo_boxesOf_27 : decode mMo_boxesOf.2.1 27 = .ok (.getfield 33, 3) := by decide +kernel
theorem dMo_boxesOf_30 : decode mMo_boxesOf.2.1 30 = .ok (.iload 4, 2) := by decide +kernel
theorem dMo_boxesOf_32 : decode mMo_boxesOf.2.1 32 = .ok (.iaload, 1) := by decide +kernel
theorem dMo_boxesOf_33 : decode mMo_boxesOf.2.1 33 = .ok (.iload_n 1, 1) := by decide +kernel
theorem dMo_boxesOf_34 : decode mMo_boxesOf.2.1 34 = .ok (.if_icmp .ne 19, 3) := by decide +kernel
theorem dMo_boxesOf_37 : decode mMo_boxesOf.2.1 37 = .ok (.aload_n 0, 1) := by decide +kernel
theorem dMo_boxesOf_38 : decode mMo_boxesOf.2.1 38 = .ok (.iload 4, 2) := by decide +kernel
theorem dMo_boxesOf_40 : decode mMo_boxesOf.2.1 40 = .ok (.iload_n 2, 1) := by decide +kernel
theorem dMo_boxesOf_41 : decode mMo_boxesOf.2.1 41 = .ok (.invokevirtual 140, 3) := by decide +kernel
theorem dMo_boxesOf_44 : decode mMo_boxesOf.2.1 44 = .ok (.lconst 0, 1) := by decide +kernel
theorem dMo_boxesOf_45 : decode mMo_boxesOf.2.1 45 = .ok (.lcmp, 1) := by decide +kernel
theorem dMo_boxesOf_46 : decode mMo_boxesOf.2.1 46 = .ok (.ifCond .le 7, 3) := by decide +kernel
theorem dMo_boxesOf_49 : decode mMo_boxesOf.2.1 49 = .ok (.iconst 1, 1) := by decide +kernel
theorem dMo_boxesOf_50 : decode mMo_boxesOf.2.1 50 = .ok (.goto 4, 3) := by decide +kernel
theorem dMo_boxesOf_53 : decode mMo_boxesOf.2.1 53 = .ok (.iconst 0, 1) := by decide +kernel
theorem dMo_boxesOf_54 : decode mMo_boxesOf.2.1 54 = .ok (.iadd, 1) := by decide +kernel
theorem dMo_boxesOf_55 : decode mMo_boxesOf.2.1 55 = .ok (.istore_n 3, 1) := by decide +kernel
theorem dMo_boxesOf_56 : decode mMo_boxesOf.2.1 56 = .ok (.iinc 4 1, 3) := by decide +kernel
theorem dMo_boxesOf_59 : decode mMo_boxesOf.2.1 59 = .ok (.goto (-54), 3) := by decide +kernel
theorem dMo_boxesOf_62 : decode mMo_boxesOf.2.1 62 = .ok (.iload_n 3, 1) := by decide +kernel
theorem dMo_boxesOf_63 : decode mMo_boxesOf.2.1 63 = .ok (.ireturn, 1) := by decide +kernel
theorem dMo_recalled_0 : decode mMo_recalled.2.1 0 = .ok (.aload_n 0, 1) := by decide +kernel
theorem dMo_recalled_1 : decode mMo_recalled.2.1 1 = .ok (.iload_n 1, 1) := by decide +kernel
theorem dMo_recalled_2 : decode mMo_recalled.2.1 2 = .ok (.iconst 1, 1) := by decide +kernel
theorem dMo_recalled_3 : decode mMo_recalled.2.1 3 = .ok (.invokevirtual 116, 3) := by decide +kernel
theorem dMo_recalled_6 : decode mMo_recalled.2.1 6 = .ok (.ifCond .eq 7, 3) := by decide +kernel
theorem dMo_recalled_9 : decode mMo_recalled.2.1 9 = .ok (.iload_n 2, 1) := by decide +kernel
theorem dMo_recalled_10 : decode mMo_recalled.2.1 10 = .ok (.ifCond .ge 5, 3) := by decide +kernel
theorem dMo_recalled_13 : decode mMo_recalled.2.1 13 = .ok (.iconst (-1), 1) := by decide +kernel
theorem dMo_recalled_14 : decode mMo_recalled.2.1 14 = .ok (.ireturn, 1) := by decide +kernel
theorem dMo_recalled_15 : decode mMo_recalled.2.1 15 = .ok (.iload_n 2, 1) := by decide +kernel
theorem dMo_recalled_16 : decode mMo_recalled.2.1 16 = .ok (.istore_n 3, 1) := by decide +kernel
theorem dMo_recalled_17 : decode mMo_recalled.2.1 17 = .ok (.iconst 0, 1) := by decide +kernel
theorem dMo_recalled_18 : decode mMo_recalled.2.1 18 = .ok (.istore 4, 2) := by decide +kernel
theorem dMo_recalled_20 : decode mMo_recalled.2.1 20 = .ok (.iload 4, 2) := by decide +kernel
theorem dMo_recalled_22 : decode mMo_recalled.2.1 22 = .ok (.bipush 100, 2) := by decide +kernel
theorem dMo_recalled_24 : decode mMo_recalled.2.1 24 = .ok (.if_icmp .ge 29, 3) := by decide +kernel
theorem dMo_recalled_27 : decode mMo_recalled.2.1 27 = .ok (.aload_n 0, 1) := by decide +kernel
theorem dMo_recalled_28 : decode mMo_recalled.2.1 28 = .ok (.iload 4, 2) := by decide +kernel
theorem dMo_recalled_30 : decode mMo_recalled.2.1 30 = .ok (.iload_n 1, 1) := by decide +kernel
theorem dMo_recalled_31 : decode mMo_recalled.2.1 31 = .ok (.invokevirtual 144, 3) := by decide +kernel
theorem dMo_recalled_34 : decode mMo_recalled.2.1 34 = .ok (.ifCond .le 13, 3) := by decide +kernel
theorem dMo_recalled_37 : decode mMo_recalled.2.1 37 = .ok (.iload_n 3, 1) := by decide +kernel
theorem dMo_recalled_38 : decode mMo_recalled.2.1 38 = .ok (.ifCond .ne 6, 3) := by decide +kernel
theorem dMo_recalled_41 : decode mMo_recalled.2.1 41 = .ok (.iload 4, 2) := by decide +kernel
theorem dMo_recalled_43 : decode mMo_recalled.2.1 43 = .ok (.ireturn, 1) := by decide +kernel
theorem dMo_recalled_44 : decode mMo_recalled.2.1 44 = .ok (.iinc 3 (-1), 3) := by decide +kernel
theorem dMo_recalled_47 : decode mMo_recalled.2.1 47 = .ok (.iinc 4 1, 3) := by decide +kernel
theorem dMo_recalled_50 : decode mMo_recalled.2.1 50 = .ok (.goto (-30), 3) := by decide +kernel
theorem dMo_recalled_53 : decode mMo_recalled.2.1 53 = .ok (.iconst (-1), 1) := by decide +kernel
theorem dMo_recalled_54 : decode mMo_recalled.2.1 54 = .ok (.ireturn, 1) := by decide +kernel
theorem dMo_doubled_0 : decode mMo_doubled.2.1 0 = .ok (.iload_n 1, 1) := by decide +kernel
theorem dMo_doubled_1 : decode mMo_doubled.2.1 1 = .ok (.istore_n 2, 1) := by decide +kernel
theorem dMo_doubled_2 : decode mMo_doubled.2.1 2 = .ok (.iconst 0, 1) := by decide +kernel
theorem dMo_doubled_3 : decode mMo_doubled.2.1 3 = .ok (.istore_n 3, 1) := by decide +kernel
theorem dMo_doubled_4 : decode mMo_doubled.2.1 4 = .ok (.iload_n 3, 1) := by decide +kernel
theorem dMo_doubled_5 : decode mMo_doubled.2.1 5 = .ok (.aload_n 0, 1) := by decide +kernel
theorem dMo_doubled_6 : decode mMo_doubled.2.1 6 = .ok (.getfield 90, 3) := by decide +kernel
theorem dMo_doubled_9 : decode mMo_doubled.2.1 9 = .ok (.if_icmp .ge 79, 3) := by decide +kernel
theorem dMo_doubled_12 : decode mMo_doubled.2.1 12 = .ok (.iload_n 1, 1) := by decide +kernel
theorem dMo_doubled_13 : decode mMo_doubled.2.1 13 = .ok (.ifCond .lt 75, 3) := by decide +kernel
theorem dMo_doubled_16 : decode mMo_doubled.2.1 16 = .ok (.iconst 0, 1) := by decide +kernel
theorem dMo_doubled_17 : decode mMo_doubled.2.1 17 = .ok (.istore 4, 2) := by decide +kernel
theorem dMo_doubled_19 : decode mMo_doubled.2.1 19 = .ok (.iconst 0, 1) := by decide +kernel
theorem dMo_doubled_20 : decode mMo_doubled.2.1 20 = .ok (.istore 5, 2) := by decide +kernel
theorem dMo_doubled_22 : decode mMo_doubled.2.1 22 = .ok (.iload 5, 2) := by decide +kernel
theorem dMo_doubled_24 : decode mMo_doubled.2.1 24 = .ok (.bipush 100, 2) := by decide +kernel
theorem dMo_doubled_26 : decode mMo_doubled.2.1 26 = .ok (.if_icmp .ge 42, 3) := by decide +kernel
theorem dMo_doubled_29 : decode mMo_doubled.2.1 29 = .ok (.aload_n 0, 1) := by decide +kernel
theorem dMo_doubled_30 : decode mMo_doubled.2.1 30 = .ok (.getfield 7, 3) := by decide +kernel
theorem dMo_doubled_33 : decode mMo_doubled.2.1 33 = .ok (.iload_n 3, 1) := by decide +kernel
theorem dMo_doubled_34 : decode mMo_doubled.2.1 34 = .ok (.iaload, 1) := by decide +kernel
theorem dMo_doubled_35 : decode mMo_doubled.2.1 35 = .ok (.iconst 1, 1) := by decide +kernel
theorem dMo_doubled_36 : decode mMo_doubled.2.1 36 = .ok (.if_icmp .ne 32, 3) := by decide +kernel
theorem dMo_doubled_39 : decode mMo_doubled.2.1 39 = .ok (.iload 4, 2) := by decide +kernel
theorem dMo_doubled_41 : decode mMo_doubled.2.1 41 = .ok (.ifCond .ne 27, 3) := by decide +kernel
theorem dMo_doubled_44 : decode mMo_doubled.2.1 44 = .ok (.aload_n 0, 1) := by decide +kernel
theorem dMo_doubled_45 : decode mMo_doubled.2.1 45 = .ok (.iload 5, 2) := by decide +kernel
theorem dMo_doubled_47 : decode mMo_doubled.2.1 47 = .ok (.iload_n 3, 1) := by decide +kernel
theorem dMo_doubled_48 : decode mMo_doubled.2.1 48 = .ok (.invokevirtual 144, 3) := by decide +kernel
theorem dMo_doubled_51 : decode mMo_doubled.2.1 51 = .ok (.iconst 1, 1) := by decide +kernel
theorem dMo_doubled_52 : decode mMo_doubled.2.1 52 = .ok (.if_icmp .le 7, 3) := by decide +kernel
theorem dMo_doubled_55 : decode mMo_doubled.2.1 55 = .ok (.iconst 1, 1) := by decide +kernel
theorem dMo_doubled_56 : decode mMo_doubled.2.1 56 = .ok (.goto 4, 3) := by decide +kernel
theorem dMo_doubled_59 : decode mMo_doubled.2.1 59 = .ok (.iconst 0, 1) := by decide +kernel
theorem dMo_doubled_60 : decode mMo_doubled.2.1 60 = .ok (.istore 4, 2) := by decide +kernel
theorem dMo_doubled_62 : decode mMo_doubled.2.1 62 = .ok (.iinc 5 1, 3) := by decide +kernel
theorem dMo_doubled_65 : decode mMo_doubled.2.1 65 = .ok (.goto (-43), 3) := by decide +kernel
theorem dMo_doubled_68 : decode mMo_doubled.2.1 68 = .ok (.iload 4, 2) := by decide +kernel
theorem dMo_doubled_70 : decode mMo_doubled.2.1 70 = .ok (.ifCond .eq 12, 3) := by decide +kernel
theorem dMo_doubled_73 : decode mMo_doubled.2.1 73 = .ok (.iload_n 2, 1) := by decide +kernel
theorem dMo_doubled_74 : decode mMo_doubled.2.1 74 = .ok (.ifCond .ne 5, 3) := by decide +kernel
theorem dMo_doubled_77 : decode mMo_doubled.2.1 77 = .ok (.iload_n 3, 1) := by decide +kernel
theorem dMo_doubled_78 : decode mMo_doubled.2.1 78 = .ok (.ireturn, 1) := by decide +kernel
theorem dMo_doubled_79 : decode mMo_doubled.2.1 79 = .ok (.iinc 2 (-1), 3) := by decide +kernel
theorem dMo_doubled_82 : decode mMo_doubled.2.1 82 = .ok (.iinc 3 1, 3) := by decide +kernel
theorem dMo_doubled_85 : decode mMo_doubled.2.1 85 = .ok (.goto (-81), 3) := by decide +kernel
theorem dMo_doubled_88 : decode mMo_doubled.2.1 88 = .ok (.iconst (-1), 1) := by decide +kernel
theorem dMo_doubled_89 : decode mMo_doubled.2.1 89 = .ok (.ireturn, 1) := by decide +kernel
theorem dMo_unit_0 : decode mMo_unit.2.1 0 = .ok (.aload_n 0, 1) := by decide +kernel
theorem dMo_unit_1 : decode mMo_unit.2.1 1 = .ok (.getfield 148, 3) := by decide +kernel
theorem dMo_unit_4 : decode mMo_unit.2.1 4 = .ok (.sipush 400, 3) := by decide +kernel
theorem dMo_unit_7 : decode mMo_unit.2.1 7 = .ok (.if_icmp .ne 5, 3) := by decide +kernel
theorem dMo_unit_10 : decode mMo_unit.2.1 10 = .ok (.iconst 0, 1) := by decide +kernel
theorem dMo_unit_11 : decode mMo_unit.2.1 11 = .ok (.ireturn, 1) := by decide +kernel
theorem dMo_unit_12 : decode mMo_unit.2.1 12 = .ok (.aload_n 0, 1) := by decide +kernel
theorem dMo_unit_13 : decode mMo_unit.2.1 13 = .ok (.getfield 48, 3) := by decide +kernel
theorem dMo_unit_16 : decode mMo_unit.2.1 16 = .ok (.aload_n 0, 1) := by decide +kernel
theorem dMo_unit_17 : decode mMo_unit.2.1 17 = .ok (.getfield 148, 3) := by decide +kernel
theorem dMo_unit_20 : decode mMo_unit.2.1 20 = .ok (.iload_n 1, 1) := by decide +kernel
theorem dMo_unit_21 : decode mMo_unit.2.1 21 = .ok (.sipush 255, 3) := by decide +kernel
theorem dMo_unit_24 : decode mMo_unit.2.1 24 = .ok (.iand, 1) := by decide +kernel
theorem dMo_unit_25 : decode mMo_unit.2.1 25 = .ok (.iastore, 1) := by decide +kernel
theorem dMo_unit_26 : decode mMo_unit.2.1 26 = .ok (.aload_n 0, 1) := by decide +kernel
theorem dMo_unit_27 : decode mMo_unit.2.1 27 = .ok (.dup, 1) := by decide +kernel
theorem dMo_unit_28 : decode mMo_unit.2.1 28 = .ok (.getfield 148, 3) := by decide +kernel
theorem dMo_unit_31 : decode mMo_unit.2.1 31 = .ok (.iconst 1, 1) := by decide +kernel
theorem dMo_unit_32 : decode mMo_unit.2.1 32 = .ok (.iadd, 1) := by decide +kernel
theorem dMo_unit_33 : decode mMo_unit.2.1 33 = .ok (.putfield 148, 3) := by decide +kernel
theorem dMo_unit_36 : decode mMo_unit.2.1 36 = .ok (.iconst 1, 1) := by decide +kernel
theorem dMo_unit_37 : decode mMo_unit.2.1 37 = .ok (.ireturn, 1) := by decide +kernel
theorem dMo_names_0 : decode mMo_names.2.1 0 = .ok (.aload_n 0, 1) := by decide +kernel
theorem dMo_names_1 : decode mMo_names.2.1 1 = .ok (.iconst 0, 1) := by decide +kernel
theorem dMo_names_2 : decode mMo_names.2.1 2 = .ok (.putfield 151, 3) := by decide +kernel
theorem dMo_names_5 : decode mMo_names.2.1 5 = .ok (.aload_n 0, 1) := by decide +kernel
theorem dMo_names_6 : decode mMo_names.2.1 6 = .ok (.iconst (-1), 1) := by decide +kernel
theorem dMo_names_7 : decode mMo_names.2.1 7 = .ok (.putfield 154, 3) := by decide +kernel
theorem dMo_names_10 : decode mMo_names.2.1 10 = .ok (.aload_n 0, 1) := by decide +kernel
theorem dMo_names_11 : decode mMo_names.2.1 11 = .ok (.iconst 0, 1) := by decide +kernel
theorem dMo_names_12 : decode mMo_names.2.1 12 = .ok (.putfield 164, 3) := by decide +kernel
theorem dMo_names_15 : decode mMo_names.2.1 15 = .ok (.aload_n 0, 1) := by decide +kernel
theorem dMo_names_16 : decode mMo_names.2.1 16 = .ok (.getfield 154, 3) := by decide +kernel
theorem dMo_names_19 : decode mMo_names.2.1 19 = .ok (.iconst (-1), 1) := by decide +kernel
theorem dMo_names_20 : decode mMo_names.2.1 20 = .ok (.if_icmp .ne 159, 3) := by decide +kernel
theorem dMo_names_23 : decode mMo_names.2.1 23 = .ok (.aload_n 0, 1) := by decide +kernel
theorem dMo_names_24 : decode mMo_names.2.1 24 = .ok (.invokevirtual 157, 3) := by decide +kernel
theorem dMo_names_27 : decode mMo_names.2.1 27 = .ok (.ifCond .eq 152, 3) := by decide +kernel
theorem dMo_names_30 : decode mMo_names.2.1 30 = .ok (.aload_n 0, 1) := by decide +kernel
theorem dMo_names_31 : decode mMo_names.2.1 31 = .ok (.aload_n 0, 1) := by decide +kernel
theorem dMo_names_32 : decode mMo_names.2.1 32 = .ok (.getfield 164, 3) := by decide +kernel
theorem dMo_names_35 : decode mMo_names.2.1 35 = .ok (.bipush 40, 2) := by decide +kernel
theorem dMo_names_37 : decode mMo_names.2.1 37 = .ok (.if_icmp .ne 8, 3) := by decide +kernel
theorem dMo_names_40 : decode mMo_names.2.1 40 = .ok (.ldc 167, 2) := by decide +kernel
theorem dMo_names_42 : decode mMo_names.2.1 42 = .ok (.goto 4, 3) := by decide +kernel
theorem dMo_names_45 : decode mMo_names.2.1 45 = .ok (.iconst 0, 1) := by decide +kernel
theorem dMo_names_46 : decode mMo_names.2.1 46 = .ok (.aload_n 0, 1) := by decide +kernel
theorem dMo_names_47 : decode mMo_names.2.1 47 = .ok (.getfield 164, 3) := by decide +kernel
theorem dMo_names_50 : decode mMo_names.2.1 50 = .ok (.bipush 40, 2) := by decide +kernel
theorem dMo_names_52 : decode mMo_names.2.1 52 = .ok (.if_icmp .ne 8, 3) := by decide +kernel
theorem dMo_names_55 : decode mMo_names.2.1 55 = .ok (.ldc 167, 2) := by decide +kernel
theorem dMo_names_57 : decode mMo_names.2.1 57 = .ok (.goto 5, 3) := by decide +kernel
theorem dMo_names_60 : decode mMo_names.2.1 60 = .ok (.bipush 99, 2) := by decide +kernel
theorem dMo_names_62 : decode mMo_names.2.1 62 = .ok (.invokevirtual 168, 3) := by decide +kernel
theorem dMo_names_65 : decode mMo_names.2.1 65 = .ok (.istore_n 1, 1) := by decide +kernel
theorem dMo_names_66 : decode mMo_names.2.1 66 = .ok (.aload_n 0, 1) := by decide +kernel
theorem dMo_names_67 : decode mMo_names.2.1 67 = .ok (.bipush 58, 2) := by decide +kernel
theorem dMo_names_69 : decode mMo_names.2.1 69 = .ok (.invokevirtual 171, 3) := by decide +kernel
theorem dMo_names_72 : decode mMo_names.2.1 72 = .ok (.aload_n 0, 1) := by decide +kernel
theorem dMo_names_73 : decode mMo_names.2.1 73 = .ok (.iconst 0, 1) := by decide +kernel
theorem dMo_names_74 : decode mMo_names.2.1 74 = .ok (.sipush 999, 3) := by decide +kernel
theorem dMo_names_77 : decode mMo_names.2.1 77 = .ok (.invokevirtual 168, 3) := by decide +kernel
theorem dMo_names_80 : decode mMo_names.2.1 80 = .ok (.istore_n 2, 1) := by decide +kernel
theorem dMo_names_81 : decode mMo_names.2.1 81 = .ok (.aload_n 0, 1) := by decide +kernel
theorem dMo_names_82 : decode mMo_names.2.1 82 = .ok (.bipush 45, 2) := by decide +kernel
theorem dMo_names_84 : decode mMo_names.2.1 84 = .ok (.invokevirtual 171, 3) := by decide +kernel
theorem dMo_names_87 : decode mMo_names.2.1 87 = .ok (.aload_n 0, 1) := by decide +kernel
theorem dMo_names_88 : decode mMo_names.2.1 88 = .ok (.iload_n 2, 1) := by decide +kernel
theorem dMo_names_89 : decode mMo_names.2.1 89 = .ok (.sipush 999, 3) := by decide +kernel
theorem dMo_names_92 : decode mMo_names.2.1 92 = .ok (.invokevirtual 168, 3) := by decide +kernel
theorem dMo_names_95 : decode mMo_names.2.1 95 = .ok (.istore_n 3, 1) := by decide +kernel
theorem dMo_names_96 : decode mMo_names.2.1 96 = .ok (.aload_n 0, 1) := by decide +kernel
theorem dMo_names_97 : decode mMo_names.2.1 97 = .ok (.bipush 44, 2) := by decide +kernel
theorem dMo_names_99 : decode mMo_names.2.1 99 = .ok (.invokevirtual 171, 3) := by decide +kernel
theorem dMo_names_102 : decode mMo_names.2.1 102 = .ok (.aload_n 0, 1) := by decide +kernel
theorem dMo_names_103 : decode mMo_names.2.1 103 = .ok (.iconst 0, 1) := by decide +kernel
theorem dMo_names_104 : decode mMo_names.2.1 104 = .ok (.ldc 174, 2) := by decide +kernel
theorem dMo_names_106 : decode mMo_names.2.1 106 = .ok (.invokevirtual 168, 3) := by decide +kernel
theorem dMo_names_109 : decode mMo_names.2.1 109 = .ok (.istore 4, 2) := by decide +kernel
theorem dMo_names_111 : decode mMo_names.2.1 111 = .ok (.aload_n 0, 1) := by decide +kernel
theorem dMo_names_112 : decode mMo_names.2.1 112 = .ok (.bipush 59, 2) := by decide +kernel
theorem dMo_names_114 : decode mMo_names.2.1 114 = .ok (.invokevirtual 171, 3) := by decide +kernel
theorem dMo_names_117 : decode mMo_names.2.1 117 = .ok (.aload_n 0, 1) := by decide +kernel
theorem dMo_names_118 : decode mMo_names.2.1 118 = .ok (.getfield 154, 3) := by decide +kernel
theorem dMo_names_121 : decode mMo_names.2.1 121 = .ok (.iconst (-1), 1) := by decide +kernel
theorem dMo_names_122 : decode mMo_names.2.1 122 = .ok (.if_icmp .ne 54, 3) := by decide +kernel
theorem dMo_names_125 : decode mMo_names.2.1 125 = .ok (.aload_n 0, 1) := by decide +kernel
theorem dMo_names_126 : decode mMo_names.2.1 126 = .ok (.getfield 63, 3) := by decide +kernel
theorem dMo_names_129 : decode mMo_names.2.1 129 = .ok (.aload_n 0, 1) := by decide +kernel
theorem dMo_names_130 : decode mMo_names.2.1 130 = .ok (.getfield 164, 3) := by decide +kernel
theorem dMo_names_133 : decode mMo_names.2.1 133 = .ok (.iload_n 1, 1) := by decide +kernel
theorem dMo_names_134 : decode mMo_names.2.1 134 = .ok (.iastore, 1) := by decide +kernel
theorem dMo_names_135 : decode mMo_names.2.1 135 = .ok (.aload_n 0, 1) := by decide +kernel
theorem dMo_names_136 : decode mMo_names.2.1 136 = .ok (.getfield 66, 3) := by decide +kernel
theorem dMo_names_139 : decode mMo_names.2.1 139 = .ok (.aload_n 0, 1) := by decide +kernel
theorem dMo_names_140 : decode mMo_names.2.1 140 = .ok (.getfield 164, 3) := by decide +kernel
theorem dMo_names_143 : decode mMo_names.2.1 143 = .ok (.iload_n 2, 1) := by decide +kernel
theorem dMo_names_144 : decode mMo_names.2.1 144 = .ok (.iastore, 1) := by decide +kernel
theorem dMo_names_145 : decode mMo_names.2.1 145 = .ok (.aload_n 0, 1) := by decide +kernel
theorem dMo_names_146 : decode mMo_names.2.1 146 = .ok (.getfield 69, 3) := by decide +kernel
theorem dMo_names_149 : decode mMo_names.2.1 149 = .ok (.aload_n 0, 1) := by decide +kernel
theorem dMo_names_150 : decode mMo_names.2.1 150 = .ok (.getfield 164, 3) := by decide +kernel
theorem dMo_names_153 : decode mMo_names.2.1 153 = .ok (.iload_n 3, 1) := by decide +kernel
theorem dMo_names_154 : decode mMo_names.2.1 154 = .ok (.iastore, 1) := by decide +kernel
theorem dMo_names_155 : decode mMo_names.2.1 155 = .ok (.aload_n 0, 1) := by decide +kernel
theorem dMo_names_156 : decode mMo_names.2.1 156 = .ok (.getfield 72, 3) := by decide +kernel
theorem dMo_names_159 : decode mMo_names.2.1 159 = .ok (.aload_n 0, 1) := by decide +kernel
theorem dMo_names_160 : decode mMo_names.2.1 160 = .ok (.getfield 164, 3) := by decide +kernel
theorem dMo_names_163 : decode mMo_names.2.1 163 = .ok (.iload 4, 2) := by decide +kernel
theorem dMo_names_165 : decode mMo_names.2.1 165 = .ok (.iastore, 1) := by decide +kernel
theorem dMo_names_166 : decode mMo_names.2.1 166 = .ok (.aload_n 0, 1) := by decide +kernel
theorem dMo_names_167 : decode mMo_names.2.1 167 = .ok (.dup, 1) := by decide +kernel
theorem dMo_names_168 : decode mMo_names.2.1 168 = .ok (.getfield 164, 3) := by decide +kernel
theorem dMo_names_171 : decode mMo_names.2.1 171 = .ok (.iconst 1, 1) := by decide +kernel
theorem dMo_names_172 : decode mMo_names.2.1 172 = .ok (.iadd, 1) := by decide +kernel
theorem dMo_names_173 : decode mMo_names.2.1 173 = .ok (.putfield 164, 3) := by decide +kernel
theorem dMo_names_176 : decode mMo_names.2.1 176 = .ok (.goto (-161), 3) := by decide +kernel
theorem dMo_names_179 : decode mMo_names.2.1 179 = .ok (.aload_n 0, 1) := by decide +kernel
theorem dMo_names_180 : decode mMo_names.2.1 180 = .ok (.iconst 0, 1) := by decide +kernel
theorem dMo_names_181 : decode mMo_names.2.1 181 = .ok (.putfield 148, 3) := by decide +kernel
theorem dMo_names_184 : decode mMo_names.2.1 184 = .ok (.aload_n 0, 1) := by decide +kernel
theorem dMo_names_185 : decode mMo_names.2.1 185 = .ok (.getfield 154, 3) := by decide +kernel
theorem dMo_names_188 : decode mMo_names.2.1 188 = .ok (.iconst (-1), 1) := by decide +kernel
theorem dMo_names_189 : decode mMo_names.2.1 189 = .ok (.if_icmp .eq 10, 3) := by decide +kernel
theorem dMo_names_192 : decode mMo_names.2.1 192 = .ok (.iconst (-1), 1) := by decide +kernel
theorem dMo_names_193 : decode mMo_names.2.1 193 = .ok (.aload_n 0, 1) := by decide +kernel
theorem dMo_names_194 : decode mMo_names.2.1 194 = .ok (.getfield 154, 3) := by decide +kernel
theorem dMo_names_197 : decode mMo_names.2.1 197 = .ok (.isub, 1) := by decide +kernel
theorem dMo_names_198 : decode mMo_names.2.1 198 = .ok (.ireturn, 1) := by decide +kernel
theorem dMo_names_199 : decode mMo_names.2.1 199 = .ok (.aload_n 0, 1) := by decide +kernel
theorem dMo_names_200 : decode mMo_names.2.1 200 = .ok (.aload_n 0, 1) := by decide +kernel
theorem dMo_names_201 : decode mMo_names.2.1 201 = .ok (.getfield 164, 3) := by decide +kernel
theorem dMo_names_204 : decode mMo_names.2.1 204 = .ok (.putfield 175, 3) := by decide +kernel
theorem dMo_names_207 : decode mMo_names.2.1 207 = .ok (.iconst 0, 1) := by decide +kernel
theorem dMo_names_208 : decode mMo_names.2.1 208 = .ok (.istore_n 1, 1) := by decide +kernel
theorem dMo_names_209 : decode mMo_names.2.1 209 = .ok (.iload_n 1, 1) := by decide +kernel
theorem dMo_names_210 : decode mMo_names.2.1 210 = .ok (.aload_n 0, 1) := by decide +kernel
theorem dMo_names_211 : decode mMo_names.2.1 211 = .ok (.getfield 164, 3) := by decide +kernel
theorem dMo_names_214 : decode mMo_names.2.1 214 = .ok (.if_icmp .ge 57, 3) := by decide +kernel
theorem dMo_names_217 : decode mMo_names.2.1 217 = .ok (.aload_n 0, 1) := by decide +kernel
theorem dMo_names_218 : decode mMo_names.2.1 218 = .ok (.getfield 51, 3) := by decide +kernel
theorem dMo_names_221 : decode mMo_names.2.1 221 = .ok (.iload_n 1, 1) := by decide +kernel
theorem dMo_names_222 : decode mMo_names.2.1 222 = .ok (.aload_n 0, 1) := by decide +kernel
theorem dMo_names_223 : decode mMo_names.2.1 223 = .ok (.getfield 63, 3) := by decide +kernel
theorem dMo_names_226 : decode mMo_names.2.1 226 = .ok (.iload_n 1, 1) := by decide +kernel
theorem dMo_names_227 : decode mMo_names.2.1 227 = .ok (.iaload, 1) := by decide +kernel
theorem dMo_names_228 : decode mMo_names.2.1 228 = .ok (.iastore, 1) := by decide +kernel
theorem dMo_names_229 : decode mMo_names.2.1 229 = .ok (.aload_n 0, 1) := by decide +kernel
theorem dMo_names_230 : decode mMo_names.2.1 230 = .ok (.getfield 54, 3) := by decide +kernel
theorem dMo_names_233 : decode mMo_names.2.1 233 = .ok (.iload_n 1, 1) := by decide +kernel
theorem dMo_names_234 : decode mMo_names.2.1 234 = .ok (.aload_n 0, 1) := by decide +kernel
theorem dMo_names_235 : decode mMo_names.2.1 235 = .ok (.getfield 66, 3) := by decide +kernel
theorem dMo_names_238 : decode mMo_names.2.1 238 = .ok (.iload_n 1, 1) := by decide +kernel
theorem dMo_names_239 : decode mMo_names.2.1 239 = .ok (.iaload, 1) := by decide +kernel
theorem dMo_names_240 : decode mMo_names.2.1 240 = .ok (.iastore, 1) := by decide +kernel
theorem dMo_names_241 : decode mMo_names.2.1 241 = .ok (.aload_n 0, 1) := by decide +kernel
theorem dMo_names_242 : decode mMo_names.2.1 242 = .ok (.getfield 57, 3) := by decide +kernel
theorem dMo_names_245 : decode mMo_names.2.1 245 = .ok (.iload_n 1, 1) := by decide +kernel
theorem dMo_names_246 : decode mMo_names.2.1 246 = .ok (.aload_n 0, 1) := by decide +kernel
theorem dMo_names_247 : decode mMo_names.2.1 247 = .ok (.getfield 69, 3) := by decide +kernel
theorem dMo_names_250 : decode mMo_names.2.1 250 = .ok (.iload_n 1, 1) := by decide +kernel
theorem dMo_names_251 : decode mMo_names.2.1 251 = .ok (.iaload, 1) := by decide +kernel
theorem dMo_names_252 : decode mMo_names.2.1 252 = .ok (.iastore, 1) := by decide +kernel
theorem dMo_names_253 : decode mMo_names.2.1 253 = .ok (.aload_n 0, 1) := by decide +kernel
theorem dMo_names_254 : decode mMo_names.2.1 254 = .ok (.getfield 60, 3) := by decide +kernel
theorem dMo_names_257 : decode mMo_names.2.1 257 = .ok (.iload_n 1, 1) := by decide +kernel
theorem dMo_names_258 : decode mMo_names.2.1 258 = .ok (.aload_n 0, 1) := by decide +kernel
theorem dMo_names_259 : decode mMo_names.2.1 259 = .ok (.getfield 72, 3) := by decide +kernel
theorem dMo_names_262 : decode mMo_names.2.1 262 = .ok (.iload_n 1, 1) := by decide +kernel
theorem dMo_names_263 : decode mMo_names.2.1 263 = .ok (.iaload, 1) := by decide +kernel
theorem dMo_names_264 : decode mMo_names.2.1 264 = .ok (.iastore, 1) := by decide +kernel
theorem dMo_names_265 : decode mMo_names.2.1 265 = .ok (.iinc 1 1, 3) := by decide +kernel
theorem dMo_names_268 : decode mMo_names.2.1 268 = .ok (.goto (-59), 3) := by decide +kernel
theorem dMo_names_271 : decode mMo_names.2.1 271 = .ok (.aload_n 0, 1) := by decide +kernel
theorem dMo_names_272 : decode mMo_names.2.1 272 = .ok (.getfield 175, 3) := by decide +kernel
theorem dMo_names_275 : decode mMo_names.2.1 275 = .ok (.ireturn, 1) := by decide +kernel
theorem dMo_skip_0 : decode mMo_skip.2.1 0 = .ok (.aload_n 0, 1) := by decide +kernel
theorem dMo_skip_1 : decode mMo_skip.2.1 1 = .ok (.getfield 151, 3) := by decide +kernel
theorem dMo_skip_4 : decode mMo_skip.2.1 4 = .ok (.aload_n 0, 1) := by decide +kernel
theorem dMo_skip_5 : decode mMo_skip.2.1 5 = .ok (.getfield 148, 3) := by decide +kernel
theorem dMo_skip_8 : decode mMo_skip.2.1 8 = .ok (.if_icmp .ge 72, 3) := by decide +kernel
theorem dMo_skip_11 : decode mMo_skip.2.1 11 = .ok (.aload_n 0, 1) := by decide +kernel
theorem dMo_skip_12 : decode mMo_skip.2.1 12 = .ok (.getfield 48, 3) := by decide +kernel
theorem dMo_skip_15 : decode mMo_skip.2.1 15 = .ok (.aload_n 0, 1) := by decide +kernel
theorem dMo_skip_16 : decode mMo_skip.2.1 16 = .ok (.getfield 151, 3) := by decide +kernel
theorem dMo_skip_19 : decode mMo_skip.2.1 19 = .ok (.iaload, 1) := by decide +kernel
theorem dMo_skip_20 : decode mMo_skip.2.1 20 = .ok (.bipush 9, 2) := by decide +kernel
theorem dMo_skip_22 : decode mMo_skip.2.1 22 = .ok (.if_icmp .eq 45, 3) := by decide +kernel
theorem dMo_skip_25 : decode mMo_skip.2.1 25 = .ok (.aload_n 0, 1) := by decide +kernel
theorem dMo_skip_26 : decode mMo_skip.2.1 26 = .ok (.getfield 48, 3) := by decide +kernel
theorem dMo_skip_29 : decode mMo_skip.2.1 29 = .ok (.aload_n 0, 1) := by decide +kernel
theorem dMo_skip_30 : decode mMo_skip.2.1 30 = .ok (.getfield 151, 3) := by decide +kernel
theorem dMo_skip_33 : decode mMo_skip.2.1 33 = .ok (.iaload, 1) := by decide +kernel
theorem dMo_skip_34 : decode mMo_skip.2.1 34 = .ok (.bipush 10, 2) := by decide +kernel
theorem dMo_skip_36 : decode mMo_skip.2.1 36 = .ok (.if_icmp .eq 31, 3) := by decide +kernel
theorem dMo_skip_39 : decode mMo_skip.2.1 39 = .ok (.aload_n 0, 1) := by decide +kernel
theorem dMo_skip_40 : decode mMo_skip.2.1 40 = .ok (.getfield 48, 3) := by decide +kernel
theorem dMo_skip_43 : decode mMo_skip.2.1 43 = .ok (.aload_n 0, 1) := by decide +kernel
theorem dMo_skip_44 : decode mMo_skip.2.1 44 = .ok (.getfield 151, 3) := by decide +kernel
theorem dMo_skip_47 : decode mMo_skip.2.1 47 = .ok (.iaload, 1) := by decide +kernel
theorem dMo_skip_48 : decode mMo_skip.2.1 48 = .ok (.bipush 13, 2) := by decide +kernel
theorem dMo_skip_50 : decode mMo_skip.2.1 50 = .ok (.if_icmp .eq 17, 3) := by decide +kernel
theorem dMo_skip_53 : decode mMo_skip.2.1 53 = .ok (.aload_n 0, 1) := by decide +kernel
theorem dMo_skip_54 : decode mMo_skip.2.1 54 = .ok (.getfield 48, 3) := by decide +kernel
theorem dMo_skip_57 : decode mMo_skip.2.1 57 = .ok (.aload_n 0, 1) := by decide +kernel
theorem dMo_skip_58 : decode mMo_skip.2.1 58 = .ok (.getfield 151, 3) := by decide +kernel
theorem dMo_skip_61 : decode mMo_skip.2.1 61 = .ok (.iaload, 1) := by decide +kernel
theorem dMo_skip_62 : decode mMo_skip.2.1 62 = .ok (.bipush 32, 2) := by decide +kernel
theorem dMo_skip_64 : decode mMo_skip.2.1 64 = .ok (.if_icmp .ne 16, 3) := by decide +kernel
theorem dMo_skip_67 : decode mMo_skip.2.1 67 = .ok (.aload_n 0, 1) := by decide +kernel
theorem dMo_skip_68 : decode mMo_skip.2.1 68 = .ok (.dup, 1) := by decide +kernel
theorem dMo_skip_69 : decode mMo_skip.2.1 69 = .ok (.getfield 151, 3) := by decide +kernel
theorem dMo_skip_72 : decode mMo_skip.2.1 72 = .ok (.iconst 1, 1) := by decide +kernel
theorem dMo_skip_73 : decode mMo_skip.2.1 73 = .ok (.iadd, 1) := by decide +kernel
theorem dMo_skip_74 : decode mMo_skip.2.1 74 = .ok (.putfield 151, 3) := by decide +kernel
theorem dMo_skip_77 : decode mMo_skip.2.1 77 = .ok (.goto (-77), 3) := by decide +kernel
theorem dMo_skip_80 : decode mMo_skip.2.1 80 = .ok (.aload_n 0, 1) := by decide +kernel
theorem dMo_skip_81 : decode mMo_skip.2.1 81 = .ok (.getfield 151, 3) := by decide +kernel
theorem dMo_skip_84 : decode mMo_skip.2.1 84 = .ok (.aload_n 0, 1) := by decide +kernel
theorem dMo_skip_85 : decode mMo_skip.2.1 85 = .ok (.getfield 148, 3) := by decide +kernel
theorem dMo_skip_88 : decode mMo_skip.2.1 88 = .ok (.if_icmp .ge 7, 3) := by decide +kernel
theorem dMo_skip_91 : decode mMo_skip.2.1 91 = .ok (.iconst 1, 1) := by decide +kernel
theorem dMo_skip_92 : decode mMo_skip.2.1 92 = .ok (.goto 4, 3) := by decide +kernel
theorem dMo_skip_95 : decode mMo_skip.2.1 95 = .ok (.iconst 0, 1) := by decide +kernel
theorem dMo_skip_96 : decode mMo_skip.2.1 96 = .ok (.ireturn, 1) := by decide +kernel
theorem dMo_number_0 : decode mMo_number.2.1 0 = .ok (.aload_n 0, 1) := by decide +kernel
theorem dMo_number_1 : decode mMo_number.2.1 1 = .ok (.getfield 154, 3) := by decide +kernel
theorem dMo_number_4 : decode mMo_number.2.1 4 = .ok (.iconst (-1), 1) := by decide +kernel
theorem dMo_number_5 : decode mMo_number.2.1 5 = .ok (.if_icmp .eq 5, 3) := by decide +kernel
theorem dMo_number_8 : decode mMo_number.2.1 8 = .ok (.iconst (-1), 1) := by decide +kernel
theorem dMo_number_9 : decode mMo_number.2.1 9 = .ok (.ireturn, 1) := by decide +kernel
theorem dMo_number_10 : decode mMo_number.2.1 10 = .ok (.aload_n 0, 1) := by decide +kernel
theorem dMo_number_11 : decode mMo_number.2.1 11 = .ok (.invokevirtual 157, 3) := by decide +kernel
theorem dMo_number_14 : decode mMo_number.2.1 14 = .ok (.istore_n 3, 1) := by decide +kernel
theorem dMo_number_15 : decode mMo_number.2.1 15 = .ok (.aload_n 0, 1) := by decide +kernel
theorem dMo_number_16 : decode mMo_number.2.1 16 = .ok (.getfield 151, 3) := by decide +kernel
theorem dMo_number_19 : decode mMo_number.2.1 19 = .ok (.istore 4, 2) := by decide +kernel
theorem dMo_number_21 : decode mMo_number.2.1 21 = .ok (.iconst 0, 1) := by decide +kernel
theorem dMo_number_22 : decode mMo_number.2.1 22 = .ok (.istore 5, 2) := by decide +kernel
theorem dMo_number_24 : decode mMo_number.2.1 24 = .ok (.aload_n 0, 1) := by decide +kernel
theorem dMo_number_25 : decode mMo_number.2.1 25 = .ok (.aload_n 0, 1) := by decide +kernel
theorem dMo_number_26 : decode mMo_number.2.1 26 = .ok (.getfield 151, 3) := by decide +kernel
theorem dMo_number_29 : decode mMo_number.2.1 29 = .ok (.invokevirtual 161, 3) := by decide +kernel
theorem dMo_number_32 : decode mMo_number.2.1 32 = .ok (.ifCond .eq 48, 3) := by decide +kernel
theorem dMo_number_35 : decode mMo_number.2.1 35 = .ok (.aload_n 0, 1) := by decide +kernel
theorem dMo_number_36 : decode mMo_number.2.1 36 = .ok (.getfield 151, 3) := by decide +kernel
theorem dMo_number_39 : decode mMo_number.2.1 39 = .ok (.iload 4, 2) := by decide +kernel
theorem dMo_number_41 : decode mMo_number.2.1 41 = .ok (.bipush 6, 2) := by decide +kernel
theorem dMo_number_43 : decode mMo_number.2.1 43 = .ok (.iadd, 1) := by decide +kernel
theorem dMo_number_44 : decode mMo_number.2.1 44 = .ok (.if_icmp .ge 36, 3) := by decide +kernel
theorem dMo_number_47 : decode mMo_number.2.1 47 = .ok (.bipush 10, 2) := by decide +kernel
theorem dMo_number_49 : decode mMo_number.2.1 49 = .ok (.iload 5, 2) := by decide +kernel
theorem dMo_number_51 : decode mMo_number.2.1 51 = .ok (.imul, 1) := by decide +kernel
theorem dMo_number_52 : decode mMo_number.2.1 52 = .ok (.aload_n 0, 1) := by decide +kernel
theorem dMo_number_53 : decode mMo_number.2.1 53 = .ok (.getfield 48, 3) := by decide +kernel
theorem dMo_number_56 : decode mMo_number.2.1 56 = .ok (.aload_n 0, 1) := by decide +kernel
theorem dMo_number_57 : decode mMo_number.2.1 57 = .ok (.getfield 151, 3) := by decide +kernel
theorem dMo_number_60 : decode mMo_number.2.1 60 = .ok (.iaload, 1) := by decide +kernel
theorem dMo_number_61 : decode mMo_number.2.1 61 = .ok (.iadd, 1) := by decide +kernel
theorem dMo_number_62 : decode mMo_number.2.1 62 = .ok (.bipush 48, 2) := by decide +kernel
theorem dMo_number_64 : decode mMo_number.2.1 64 = .ok (.isub, 1) := by decide +kernel
theorem dMo_number_65 : decode mMo_number.2.1 65 = .ok (.istore 5, 2) := by decide +kernel
theorem dMo_number_67 : decode mMo_number.2.1 67 = .ok (.aload_n 0, 1) := by decide +kernel
theorem dMo_number_68 : decode mMo_number.2.1 68 = .ok (.dup, 1) := by decide +kernel
theorem dMo_number_69 : decode mMo_number.2.1 69 = .ok (.getfield 151, 3) := by decide +kernel
theorem dMo_number_72 : decode mMo_number.2.1 72 = .ok (.iconst 1, 1) := by decide +kernel
theorem dMo_number_73 : decode mMo_number.2.1 73 = .ok (.iadd, 1) := by decide +kernel
theorem dMo_number_74 : decode mMo_number.2.1 74 = .ok (.putfield 151, 3) := by decide +kernel
theorem dMo_number_77 : decode mMo_number.2.1 77 = .ok (.goto (-53), 3) := by decide +kernel
theorem dMo_number_80 : decode mMo_number.2.1 80 = .ok (.aload_n 0, 1) := by decide +kernel
theorem dMo_number_81 : decode mMo_number.2.1 81 = .ok (.aload_n 0, 1) := by decide +kernel
theorem dMo_number_82 : decode mMo_number.2.1 82 = .ok (.getfield 151, 3) := by decide +kernel
theorem dMo_number_85 : decode mMo_number.2.1 85 = .ok (.iload 4, 2) := by decide +kernel
theorem dMo_number_87 : decode mMo_number.2.1 87 = .ok (.if_icmp .eq 14, 3) := by decide +kernel
theorem dMo_number_90 : decode mMo_number.2.1 90 = .ok (.aload_n 0, 1) := by decide +kernel
theorem dMo_number_91 : decode mMo_number.2.1 91 = .ok (.aload_n 0, 1) := by decide +kernel
theorem dMo_number_92 : decode mMo_number.2.1 92 = .ok (.getfield 151, 3) := by decide +kernel
theorem dMo_number_95 : decode mMo_number.2.1 95 = .ok (.invokevirtual 161, 3) := by decide +kernel
theorem dMo_number_98 : decode mMo_number.2.1 98 = .ok (.ifCond .eq 10, 3) := by decide +kernel
theorem dMo_number_101 : decode mMo_number.2.1 101 = .ok (.aload_n 0, 1) := by decide +kernel
theorem dMo_number_102 : decode mMo_number.2.1 102 = .ok (.getfield 151, 3) := by decide +kernel
theorem dMo_number_105 : decode mMo_number.2.1 105 = .ok (.goto 21, 3) := by decide +kernel
theorem dMo_number_108 : decode mMo_number.2.1 108 = .ok (.iload 5, 2) := by decide +kernel
theorem dMo_number_110 : decode mMo_number.2.1 110 = .ok (.iload_n 1, 1) := by decide +kernel
theorem dMo_number_111 : decode mMo_number.2.1 111 = .ok (.if_icmp .lt 9, 3) := by decide +kernel
theorem dMo_number_114 : decode mMo_number.2.1 114 = .ok (.iload 5, 2) := by decide +kernel
theorem dMo_number_116 : decode mMo_number.2.1 116 = .ok (.iload_n 2, 1) := by decide +kernel
theorem dMo_number_117 : decode mMo_number.2.1 117 = .ok (.if_icmp .le 8, 3) := by decide +kernel
theorem dMo_number_120 : decode mMo_number.2.1 120 = .ok (.iload 4, 2) := by decide +kernel
theorem dMo_number_122 : decode mMo_number.2.1 122 = .ok (.goto 4, 3) := by decide +kernel
theorem dMo_number_125 : decode mMo_number.2.1 125 = .ok (.iconst (-1), 1) := by decide +kernel
theorem dMo_number_126 : decode mMo_number.2.1 126 = .ok (.putfield 154, 3) := by decide +kernel
theorem dMo_number_129 : decode mMo_number.2.1 129 = .ok (.aload_n 0, 1) := by decide +kernel
theorem dMo_number_130 : decode mMo_number.2.1 130 = .ok (.getfield 154, 3) := by decide +kernel
theorem dMo_number_133 : decode mMo_number.2.1 133 = .ok (.iconst (-1), 1) := by decide +kernel
theorem dMo_number_134 : decode mMo_number.2.1 134 = .ok (.if_icmp .ne 8, 3) := by decide +kernel
theorem dMo_number_137 : decode mMo_number.2.1 137 = .ok (.iload 5, 2) := by decide +kernel
theorem dMo_number_139 : decode mMo_number.2.1 139 = .ok (.goto 4, 3) := by decide +kernel
theorem dMo_number_142 : decode mMo_number.2.1 142 = .ok (.iconst (-1), 1) := by decide +kernel
theorem dMo_number_143 : decode mMo_number.2.1 143 = .ok (.ireturn, 1) := by decide +kernel
theorem dMo_isDigit_0 : decode mMo_isDigit.2.1 0 = .ok (.iload_n 1, 1) := by decide +kernel
theorem dMo_isDigit_1 : decode mMo_isDigit.2.1 1 = .ok (.aload_n 0, 1) := by decide +kernel
theorem dMo_isDigit_2 : decode mMo_isDigit.2.1 2 = .ok (.getfield 148, 3) := by decide +kernel
theorem dMo_isDigit_5 : decode mMo_isDigit.2.1 5 = .ok (.if_icmp .ge 29, 3) := by decide +kernel
theorem dMo_isDigit_8 : decode mMo_isDigit.2.1 8 = .ok (.aload_n 0, 1) := by decide +kernel
theorem dMo_isDigit_9 : decode mMo_isDigit.2.1 9 = .ok (.getfield 48, 3) := by decide +kernel
theorem dMo_isDigit_12 : decode mMo_isDigit.2.1 12 = .ok (.iload_n 1, 1) := by decide +kernel
theorem dMo_isDigit_13 : decode mMo_isDigit.2.1 13 = .ok (.iaload, 1) := by decide +kernel
theorem dMo_isDigit_14 : decode mMo_isDigit.2.1 14 = .ok (.bipush 48, 2) := by decide +kernel
theorem dMo_isDigit_16 : decode mMo_isDigit.2.1 16 = .ok (.if_icmp .lt 18, 3) := by decide +kernel
theorem dMo_isDigit_19 : decode mMo_isDigit.2.1 19 = .ok (.aload_n 0, 1) := by decide +kernel
theorem dMo_isDigit_20 : decode mMo_isDigit.2.1 20 = .ok (.getfield 48, 3) := by decide +kernel
theorem dMo_isDigit_23 : decode mMo_isDigit.2.1 23 = .ok (.iload_n 1, 1) := by decide +kernel
theorem dMo_isDigit_24 : decode mMo_isDigit.2.1 24 = .ok (.iaload, 1) := by decide +kernel
theorem dMo_isDigit_25 : decode mMo_isDigit.2.1 25 = .ok (.bipush 57, 2) := by decide +kernel
theorem dMo_isDigit_27 : decode mMo_isDigit.2.1 27 = .ok (.if_icmp .gt 7, 3) := by decide +kernel
theorem dMo_isDigit_30 : decode mMo_isDigit.2.1 30 = .ok (.iconst 1, 1) := by decide +kernel
theorem dMo_isDigit_31 : decode mMo_isDigit.2.1 31 = .ok (.goto 4, 3) := by decide +kernel
theorem dMo_isDigit_34 : decode mMo_isDigit.2.1 34 = .ok (.iconst 0, 1) := by decide +kernel
theorem dMo_isDigit_35 : decode mMo_isDigit.2.1 35 = .ok (.ireturn, 1) := by decide +kernel
theorem dMo_sign_0 : decode mMo_sign.2.1 0 = .ok (.aload_n 0, 1) := by decide +kernel
theorem dMo_sign_1 : decode mMo_sign.2.1 1 = .ok (.getfield 154, 3) := by decide +kernel
theorem dMo_sign_4 : decode mMo_sign.2.1 4 = .ok (.iconst (-1), 1) := by decide +kernel
theorem dMo_sign_5 : decode mMo_sign.2.1 5 = .ok (.if_icmp .ne 55, 3) := by decide +kernel
theorem dMo_sign_8 : decode mMo_sign.2.1 8 = .ok (.aload_n 0, 1) := by decide +kernel
theorem dMo_sign_9 : decode mMo_sign.2.1 9 = .ok (.invokevirtual 157, 3) := by decide +kernel
theorem dMo_sign_12 : decode mMo_sign.2.1 12 = .ok (.ifCond .eq 20, 3) := by decide +kernel
theorem dMo_sign_15 : decode mMo_sign.2.1 15 = .ok (.aload_n 0, 1) := by decide +kernel
theorem dMo_sign_16 : decode mMo_sign.2.1 16 = .ok (.getfield 48, 3) := by decide +kernel
theorem dMo_sign_19 : decode mMo_sign.2.1 19 = .ok (.aload_n 0, 1) := by decide +kernel
theorem dMo_sign_20 : decode mMo_sign.2.1 20 = .ok (.getfield 151, 3) := by decide +kernel
theorem dMo_sign_23 : decode mMo_sign.2.1 23 = .ok (.iaload, 1) := by decide +kernel
theorem dMo_sign_24 : decode mMo_sign.2.1 24 = .ok (.iload_n 1, 1) := by decide +kernel
theorem dMo_sign_25 : decode mMo_sign.2.1 25 = .ok (.if_icmp .ne 7, 3) := by decide +kernel
theorem dMo_sign_28 : decode mMo_sign.2.1 28 = .ok (.iconst 1, 1) := by decide +kernel
theorem dMo_sign_29 : decode mMo_sign.2.1 29 = .ok (.goto 4, 3) := by decide +kernel
theorem dMo_sign_32 : decode mMo_sign.2.1 32 = .ok (.iconst 0, 1) := by decide +kernel
theorem dMo_sign_33 : decode mMo_sign.2.1 33 = .ok (.istore_n 2, 1) := by decide +kernel
theorem dMo_sign_34 : decode mMo_sign.2.1 34 = .ok (.aload_n 0, 1) := by decide +kernel
theorem dMo_sign_35 : decode mMo_sign.2.1 35 = .ok (.iload_n 2, 1) := by decide +kernel
theorem dMo_sign_36 : decode mMo_sign.2.1 36 = .ok (.ifCond .eq 7, 3) := by decide +kernel
theorem dMo_sign_39 : decode mMo_sign.2.1 39 = .ok (.iconst (-1), 1) := by decide +kernel
theorem dMo_sign_40 : decode mMo_sign.2.1 40 = .ok (.goto 7, 3) := by decide +kernel
theorem dMo_sign_43 : decode mMo_sign.2.1 43 = .ok (.aload_n 0, 1) := by decide +kernel
theorem dMo_sign_44 : decode mMo_sign.2.1 44 = .ok (.getfield 151, 3) := by decide +kernel
theorem dMo_sign_47 : decode mMo_sign.2.1 47 = .ok (.putfield 154, 3) := by decide +kernel
theorem dMo_sign_50 : decode mMo_sign.2.1 50 = .ok (.aload_n 0, 1) := by decide +kernel
theorem dMo_sign_51 : decode mMo_sign.2.1 51 = .ok (.dup, 1) := by decide +kernel
theorem dMo_sign_52 : decode mMo_sign.2.1 52 = .ok (.getfield 151, 3) := by decide +kernel
theorem dMo_sign_55 : decode mMo_sign.2.1 55 = .ok (.iconst 1, 1) := by decide +kernel
theorem dMo_sign_56 : decode mMo_sign.2.1 56 = .ok (.iadd, 1) := by decide +kernel
theorem dMo_sign_57 : decode mMo_sign.2.1 57 = .ok (.putfield 151, 3) := by decide +kernel
theorem dMo_sign_60 : decode mMo_sign.2.1 60 = .ok (.return_, 1) := by decide +kernel
theorem dMo_name_0 : decode mMo_name.2.1 0 = .ok (.aload_n 0, 1) := by decide +kernel
theorem dMo_name_1 : decode mMo_name.2.1 1 = .ok (.iload_n 1, 1) := by decide +kernel
theorem dMo_name_2 : decode mMo_name.2.1 2 = .ok (.invokevirtual 94, 3) := by decide +kernel
theorem dMo_name_5 : decode mMo_name.2.1 5 = .ok (.ifCond .eq 12, 3) := by decide +kernel
theorem dMo_name_8 : decode mMo_name.2.1 8 = .ok (.aload_n 0, 1) := by decide +kernel
theorem dMo_name_9 : decode mMo_name.2.1 9 = .ok (.getfield 13, 3) := by decide +kernel
theorem dMo_name_12 : decode mMo_name.2.1 12 = .ok (.iload_n 1, 1) := by decide +kernel
theorem dMo_name_13 : decode mMo_name.2.1 13 = .ok (.iaload, 1) := by decide +kernel
theorem dMo_name_14 : decode mMo_name.2.1 14 = .ok (.ifCond .ne 5, 3) := by decide +kernel
theorem dMo_name_17 : decode mMo_name.2.1 17 = .ok (.iconst 0, 1) := by decide +kernel
theorem dMo_name_18 : decode mMo_name.2.1 18 = .ok (.ireturn, 1) := by decide +kernel
theorem dMo_name_19 : decode mMo_name.2.1 19 = .ok (.iconst (-1), 1) := by decide +kernel
theorem dMo_name_20 : decode mMo_name.2.1 20 = .ok (.istore 4, 2) := by decide +kernel
theorem dMo_name_22 : decode mMo_name.2.1 22 = .ok (.iconst 0, 1) := by decide +kernel
theorem dMo_name_23 : decode mMo_name.2.1 23 = .ok (.istore 5, 2) := by decide +kernel
theorem dMo_name_25 : decode mMo_name.2.1 25 = .ok (.iload 5, 2) := by decide +kernel
theorem dMo_name_27 : decode mMo_name.2.1 27 = .ok (.aload_n 0, 1) := by decide +kernel
theorem dMo_name_28 : decode mMo_name.2.1 28 = .ok (.getfield 175, 3) := by decide +kernel
theorem dMo_name_31 : decode mMo_name.2.1 31 = .ok (.if_icmp .ge 58, 3) := by decide +kernel
theorem dMo_name_34 : decode mMo_name.2.1 34 = .ok (.aload_n 0, 1) := by decide +kernel
theorem dMo_name_35 : decode mMo_name.2.1 35 = .ok (.getfield 51, 3) := by decide +kernel
theorem dMo_name_38 : decode mMo_name.2.1 38 = .ok (.iload 5, 2) := by decide +kernel
theorem dMo_name_40 : decode mMo_name.2.1 40 = .ok (.iaload, 1) := by decide +kernel
theorem dMo_name_41 : decode mMo_name.2.1 41 = .ok (.iload_n 2, 1) := by decide +kernel
theorem dMo_name_42 : decode mMo_name.2.1 42 = .ok (.if_icmp .ne 41, 3) := by decide +kernel
theorem dMo_name_45 : decode mMo_name.2.1 45 = .ok (.aload_n 0, 1) := by decide +kernel
theorem dMo_name_46 : decode mMo_name.2.1 46 = .ok (.getfield 60, 3) := by decide +kernel
theorem dMo_name_49 : decode mMo_name.2.1 49 = .ok (.iload 5, 2) := by decide +kernel
theorem dMo_name_51 : decode mMo_name.2.1 51 = .ok (.iaload, 1) := by decide +kernel
theorem dMo_name_52 : decode mMo_name.2.1 52 = .ok (.iload_n 3, 1) := by decide +kernel
theorem dMo_name_53 : decode mMo_name.2.1 53 = .ok (.if_icmp .gt 30, 3) := by decide +kernel
theorem dMo_name_56 : decode mMo_name.2.1 56 = .ok (.iload 4, 2) := by decide +kernel
theorem dMo_name_58 : decode mMo_name.2.1 58 = .ok (.iconst (-1), 1) := by decide +kernel
theorem dMo_name_59 : decode mMo_name.2.1 59 = .ok (.if_icmp .eq 20, 3) := by decide +kernel
theorem dMo_name_62 : decode mMo_name.2.1 62 = .ok (.aload_n 0, 1) := by decide +kernel
theorem dMo_name_63 : decode mMo_name.2.1 63 = .ok (.getfield 60, 3) := by decide +kernel
theorem dMo_name_66 : decode mMo_name.2.1 66 = .ok (.iload 5, 2) := by decide +kernel
theorem dMo_name_68 : decode mMo_name.2.1 68 = .ok (.iaload, 1) := by decide +kernel
theorem dMo_name_69 : decode mMo_name.2.1 69 = .ok (.aload_n 0, 1) := by decide +kernel
theorem dMo_name_70 : decode mMo_name.2.1 70 = .ok (.getfield 60, 3) := by decide +kernel
theorem dMo_name_73 : decode mMo_name.2.1 73 = .ok (.iload 4, 2) := by decide +kernel
theorem dMo_name_75 : decode mMo_name.2.1 75 = .ok (.iaload, 1) := by decide +kernel
theorem dMo_name_76 : decode mMo_name.2.1 76 = .ok (.if_icmp .lt 7, 3) := by decide +kernel
theorem dMo_name_79 : decode mMo_name.2.1 79 = .ok (.iload 5, 2) := by decide +kernel
theorem dMo_name_81 : decode mMo_name.2.1 81 = .ok (.istore 4, 2) := by decide +kernel
theorem dMo_name_83 : decode mMo_name.2.1 83 = .ok (.iinc 5 1, 3) := by decide +kernel
theorem dMo_name_86 : decode mMo_name.2.1 86 = .ok (.goto (-61), 3) := by decide +kernel
theorem dMo_name_89 : decode mMo_name.2.1 89 = .ok (.iload 4, 2) := by decide +kernel
theorem dMo_name_91 : decode mMo_name.2.1 91 = .ok (.iconst (-1), 1) := by decide +kernel
theorem dMo_name_92 : decode mMo_name.2.1 92 = .ok (.if_icmp .eq 7, 3) := by decide +kernel
theorem dMo_name_95 : decode mMo_name.2.1 95 = .ok (.iconst 1, 1) := by decide +kernel
theorem dMo_name_96 : decode mMo_name.2.1 96 = .ok (.goto 4, 3) := by decide +kernel
theorem dMo_name_99 : decode mMo_name.2.1 99 = .ok (.iconst 0, 1) := by decide +kernel
theorem dMo_name_100 : decode mMo_name.2.1 100 = .ok (.istore 5, 2) := by decide +kernel
theorem dMo_name_102 : decode mMo_name.2.1 102 = .ok (.iconst 0, 1) := by decide +kernel
theorem dMo_name_103 : decode mMo_name.2.1 103 = .ok (.istore 6, 2) := by decide +kernel
theorem dMo_name_105 : decode mMo_name.2.1 105 = .ok (.iload 6, 2) := by decide +kernel
theorem dMo_name_107 : decode mMo_name.2.1 107 = .ok (.aload_n 0, 1) := by decide +kernel
theorem dMo_name_108 : decode mMo_name.2.1 108 = .ok (.getfield 13, 3) := by decide +kernel
theorem dMo_name_111 : decode mMo_name.2.1 111 = .ok (.iload_n 1, 1) := by decide +kernel
theorem dMo_name_112 : decode mMo_name.2.1 112 = .ok (.iaload, 1) := by decide +kernel
theorem dMo_name_113 : decode mMo_name.2.1 113 = .ok (.if_icmp .ge 64, 3) := by decide +kernel
theorem dMo_name_116 : decode mMo_name.2.1 116 = .ok (.iload 5, 2) := by decide +kernel
theorem dMo_name_118 : decode mMo_name.2.1 118 = .ok (.ifCond .eq 59, 3) := by decide +kernel
theorem dMo_name_121 : decode mMo_name.2.1 121 = .ok (.aload_n 0, 1) := by decide +kernel
theorem dMo_name_122 : decode mMo_name.2.1 122 = .ok (.getfield 33, 3) := by decide +kernel
theorem dMo_name_125 : decode mMo_name.2.1 125 = .ok (.aload_n 0, 1) := by decide +kernel
theorem dMo_name_126 : decode mMo_name.2.1 126 = .ok (.getfield 16, 3) := by decide +kernel
theorem dMo_name_129 : decode mMo_name.2.1 129 = .ok (.bipush 81, 2) := by decide +kernel
theorem dMo_name_131 : decode mMo_name.2.1 131 = .ok (.iload_n 1, 1) := by decide +kernel
theorem dMo_name_132 : decode mMo_name.2.1 132 = .ok (.imul, 1) := by decide +kernel
theorem dMo_name_133 : decode mMo_name.2.1 133 = .ok (.iload 6, 2) := by decide +kernel
theorem dMo_name_135 : decode mMo_name.2.1 135 = .ok (.iadd, 1) := by decide +kernel
theorem dMo_name_136 : decode mMo_name.2.1 136 = .ok (.iaload, 1) := by decide +kernel
theorem dMo_name_137 : decode mMo_name.2.1 137 = .ok (.iaload, 1) := by decide +kernel
theorem dMo_name_138 : decode mMo_name.2.1 138 = .ok (.istore 7, 2) := by decide +kernel
theorem dMo_name_140 : decode mMo_name.2.1 140 = .ok (.iload 7, 2) := by decide +kernel
theorem dMo_name_142 : decode mMo_name.2.1 142 = .ok (.aload_n 0, 1) := by decide +kernel
theorem dMo_name_143 : decode mMo_name.2.1 143 = .ok (.getfield 54, 3) := by decide +kernel
theorem dMo_name_146 : decode mMo_name.2.1 146 = .ok (.iload 4, 2) := by decide +kernel
theorem dMo_name_148 : decode mMo_name.2.1 148 = .ok (.iaload, 1) := by decide +kernel
theorem dMo_name_149 : decode mMo_name.2.1 149 = .ok (.if_icmp .lt 19, 3) := by decide +kernel
theorem dMo_name_152 : decode mMo_name.2.1 152 = .ok (.iload 7, 2) := by decide +kernel
theorem dMo_name_154 : decode mMo_name.2.1 154 = .ok (.aload_n 0, 1) := by decide +kernel
theorem dMo_name_155 : decode mMo_name.2.1 155 = .ok (.getfield 57, 3) := by decide +kernel
theorem dMo_name_158 : decode mMo_name.2.1 158 = .ok (.iload 4, 2) := by decide +kernel
theorem dMo_name_160 : decode mMo_name.2.1 160 = .ok (.iaload, 1) := by decide +kernel
theorem dMo_name_161 : decode mMo_name.2.1 161 = .ok (.if_icmp .gt 7, 3) := by decide +kernel
theorem dMo_name_164 : decode mMo_name.2.1 164 = .ok (.iconst 1, 1) := by decide +kernel
theorem dMo_name_165 : decode mMo_name.2.1 165 = .ok (.goto 4, 3) := by decide +kernel
theorem dMo_name_168 : decode mMo_name.2.1 168 = .ok (.iconst 0, 1) := by decide +kernel
theorem dMo_name_169 : decode mMo_name.2.1 169 = .ok (.istore 5, 2) := by decide +kernel
theorem dMo_name_171 : decode mMo_name.2.1 171 = .ok (.iinc 6 1, 3) := by decide +kernel
theorem dMo_name_174 : decode mMo_name.2.1 174 = .ok (.goto (-69), 3) := by decide +kernel
theorem dMo_name_177 : decode mMo_name.2.1 177 = .ok (.iload 5, 2) := by decide +kernel
theorem dMo_name_179 : decode mMo_name.2.1 179 = .ok (.ireturn, 1) := by decide +kernel
theorem dMo_certificate_0 : decode mMo_certificate.2.1 0 = .ok (.iload_n 1, 1) := by decide +kernel
theorem dMo_certificate_1 : decode mMo_certificate.2.1 1 = .ok (.ifCond .lt 18, 3) := by decide +kernel
theorem dMo_certificate_4 : decode mMo_certificate.2.1 4 = .ok (.iload_n 1, 1) := by decide +kernel
theorem dMo_certificate_5 : decode mMo_certificate.2.1 5 = .ok (.ldc 100, 2) := by decide +kernel
theorem dMo_certificate_7 : decode mMo_certificate.2.1 7 = .ok (.if_icmp .gt 12, 3) := by decide +kernel
theorem dMo_certificate_10 : decode mMo_certificate.2.1 10 = .ok (.aload_n 0, 1) := by decide +kernel
theorem dMo_certificate_11 : decode mMo_certificate.2.1 11 = .ok (.getfield 178, 3) := by decide +kernel
theorem dMo_certificate_14 : decode mMo_certificate.2.1 14 = .ok (.bipush 10, 2) := by decide +kernel
theorem dMo_certificate_16 : decode mMo_certificate.2.1 16 = .ok (.if_icmp .ne 5, 3) := by decide +kernel
theorem dMo_certificate_19 : decode mMo_certificate.2.1 19 = .ok (.iconst (-1), 1) := by decide +kernel
theorem dMo_certificate_20 : decode mMo_certificate.2.1 20 = .ok (.ireturn, 1) := by decide +kernel
theorem dMo_certificate_21 : decode mMo_certificate.2.1 21 = .ok (.aload_n 0, 1) := by decide +kernel
theorem dMo_certificate_22 : decode mMo_certificate.2.1 22 = .ok (.getfield 75, 3) := by decide +kernel
theorem dMo_certificate_25 : decode mMo_certificate.2.1 25 = .ok (.aload_n 0, 1) := by decide +kernel
theorem dMo_certificate_26 : decode mMo_certificate.2.1 26 = .ok (.getfield 178, 3) := by decide +kernel
theorem dMo_certificate_29 : decode mMo_certificate.2.1 29 = .ok (.iload_n 1, 1) := by decide +kernel
theorem dMo_certificate_30 : decode mMo_certificate.2.1 30 = .ok (.iastore, 1) := by decide +kernel
theorem dMo_certificate_31 : decode mMo_certificate.2.1 31 = .ok (.aload_n 0, 1) := by decide +kernel
theorem dMo_certificate_32 : decode mMo_certificate.2.1 32 = .ok (.dup, 1) := by decide +kernel
theorem dMo_certificate_33 : decode mMo_certificate.2.1 33 = .ok (.getfield 178, 3) := by decide +kernel
theorem dMo_certificate_36 : decode mMo_certificate.2.1 36 = .ok (.iconst 1, 1) := by decide +kernel
theorem dMo_certificate_37 : decode mMo_certificate.2.1 37 = .ok (.iadd, 1) := by decide +kernel
theorem dMo_certificate_38 : decode mMo_certificate.2.1 38 = .ok (.putfield 178, 3) := by decide +kernel
theorem dMo_certificate_41 : decode mMo_certificate.2.1 41 = .ok (.aload_n 0, 1) := by decide +kernel
theorem dMo_certificate_42 : decode mMo_certificate.2.1 42 = .ok (.getfield 178, 3) := by decide +kernel
theorem dMo_certificate_45 : decode mMo_certificate.2.1 45 = .ok (.iconst 1, 1) := by decide +kernel
theorem dMo_certificate_46 : decode mMo_certificate.2.1 46 = .ok (.isub, 1) := by decide +kernel
theorem dMo_certificate_47 : decode mMo_certificate.2.1 47 = .ok (.ireturn, 1) := by decide +kernel
theorem dMo_credit_0 : decode mMo_credit.2.1 0 = .ok (.aload_n 0, 1) := by decide +kernel
theorem dMo_credit_1 : decode mMo_credit.2.1 1 = .ok (.iload_n 1, 1) := by decide +kernel
theorem dMo_credit_2 : decode mMo_credit.2.1 2 = .ok (.lload_n 2, 1) := by decide +kernel
theorem dMo_credit_3 : decode mMo_credit.2.1 3 = .ok (.iload 4, 2) := by decide +kernel
theorem dMo_credit_5 : decode mMo_credit.2.1 5 = .ok (.invokevirtual 184, 3) := by decide +kernel
theorem dMo_credit_8 : decode mMo_credit.2.1 8 = .ok (.ifCond .ne 5, 3) := by decide +kernel
theorem dMo_credit_11 : decode mMo_credit.2.1 11 = .ok (.iconst 0, 1) := by decide +kernel
theorem dMo_credit_12 : decode mMo_credit.2.1 12 = .ok (.ireturn, 1) := by decide +kernel
theorem dMo_credit_13 : decode mMo_credit.2.1 13 = .ok (.aload_n 0, 1) := by decide +kernel
theorem dMo_credit_14 : decode mMo_credit.2.1 14 = .ok (.iload_n 1, 1) := by decide +kernel
theorem dMo_credit_15 : decode mMo_credit.2.1 15 = .ok (.lload_n 2, 1) := by decide +kernel
theorem dMo_credit_16 : decode mMo_credit.2.1 16 = .ok (.iload 4, 2) := by decide +kernel
theorem dMo_credit_18 : decode mMo_credit.2.1 18 = .ok (.invokevirtual 188, 3) := by decide +kernel
theorem dMo_credit_21 : decode mMo_credit.2.1 21 = .ok (.iconst 1, 1) := by decide +kernel
theorem dMo_credit_22 : decode mMo_credit.2.1 22 = .ok (.ireturn, 1) := by decide +kernel
theorem dMo_mayAct_0 : decode mMo_mayAct.2.1 0 = .ok (.iload_n 1, 1) := by decide +kernel
theorem dMo_mayAct_1 : decode mMo_mayAct.2.1 1 = .ok (.ifCond .lt 50, 3) := by decide +kernel
theorem dMo_mayAct_4 : decode mMo_mayAct.2.1 4 = .ok (.iload_n 1, 1) := by decide +kernel
theorem dMo_mayAct_5 : decode mMo_mayAct.2.1 5 = .ok (.aload_n 0, 1) := by decide +kernel
theorem dMo_mayAct_6 : decode mMo_mayAct.2.1 6 = .ok (.getfield 178, 3) := by decide +kernel
theorem dMo_mayAct_9 : decode mMo_mayAct.2.1 9 = .ok (.if_icmp .ge 42, 3) := by decide +kernel
theorem dMo_mayAct_12 : decode mMo_mayAct.2.1 12 = .ok (.lload_n 2, 1) := by decide +kernel
theorem dMo_mayAct_13 : decode mMo_mayAct.2.1 13 = .ok (.lconst 1, 1) := by decide +kernel
theorem dMo_mayAct_14 : decode mMo_mayAct.2.1 14 = .ok (.lcmp, 1) := by decide +kernel
theorem dMo_mayAct_15 : decode mMo_mayAct.2.1 15 = .ok (.ifCond .lt 36, 3) := by decide +kernel
theorem dMo_mayAct_18 : decode mMo_mayAct.2.1 18 = .ok (.lload_n 2, 1) := by decide +kernel
theorem dMo_mayAct_19 : decode mMo_mayAct.2.1 19 = .ok (.ldc2_w 98, 3) := by decide +kernel
theorem dMo_mayAct_22 : decode mMo_mayAct.2.1 22 = .ok (.lcmp, 1) := by decide +kernel
theorem dMo_mayAct_23 : decode mMo_mayAct.2.1 23 = .ok (.ifCond .gt 28, 3) := by decide +kernel
theorem dMo_mayAct_26 : decode mMo_mayAct.2.1 26 = .ok (.iload 4, 2) := by decide +kernel
theorem dMo_mayAct_28 : decode mMo_mayAct.2.1 28 = .ok (.ifCond .lt 23, 3) := by decide +kernel
theorem dMo_mayAct_31 : decode mMo_mayAct.2.1 31 = .ok (.iload 4, 2) := by decide +kernel
theorem dMo_mayAct_33 : decode mMo_mayAct.2.1 33 = .ok (.ldc 100, 2) := by decide +kernel
theorem dMo_mayAct_35 : decode mMo_mayAct.2.1 35 = .ok (.if_icmp .gt 16, 3) := by decide +kernel
theorem dMo_mayAct_38 : decode mMo_mayAct.2.1 38 = .ok (.aload_n 0, 1) := by decide +kernel
theorem dMo_mayAct_39 : decode mMo_mayAct.2.1 39 = .ok (.getfield 181, 3) := by decide +kernel
theorem dMo_mayAct_42 : decode mMo_mayAct.2.1 42 = .ok (.bipush 100, 2) := by decide +kernel
theorem dMo_mayAct_44 : decode mMo_mayAct.2.1 44 = .ok (.if_icmp .ge 7, 3) := by decide +kernel
theorem dMo_mayAct_47 : decode mMo_mayAct.2.1 47 = .ok (.iconst 1, 1) := by decide +kernel
theorem dMo_mayAct_48 : decode mMo_mayAct.2.1 48 = .ok (.goto 4, 3) := by decide +kernel
theorem dMo_mayAct_51 : decode mMo_mayAct.2.1 51 = .ok (.iconst 0, 1) := by decide +kernel
theorem dMo_mayAct_52 : decode mMo_mayAct.2.1 52 = .ok (.ireturn, 1) := by decide +kernel
theorem dMo_act_0 : decode mMo_act.2.1 0 = .ok (.aload_n 0, 1) := by decide +kernel
theorem dMo_act_1 : decode mMo_act.2.1 1 = .ok (.getfield 78, 3) := by decide +kernel
theorem dMo_act_4 : decode mMo_act.2.1 4 = .ok (.aload_n 0, 1) := by decide +kernel
theorem dMo_act_5 : decode mMo_act.2.1 5 = .ok (.getfield 181, 3) := by decide +kernel
theorem dMo_act_8 : decode mMo_act.2.1 8 = .ok (.iload_n 1, 1) := by decide +kernel
theorem dMo_act_9 : decode mMo_act.2.1 9 = .ok (.iastore, 1) := by decide +kernel
theorem dMo_act_10 : decode mMo_act.2.1 10 = .ok (.aload_n 0, 1) := by decide +kernel
theorem dMo_act_11 : decode mMo_act.2.1 11 = .ok (.getfield 84, 3) := by decide +kernel
theorem dMo_act_14 : decode mMo_act.2.1 14 = .ok (.aload_n 0, 1) := by decide +kernel
theorem dMo_act_15 : decode mMo_act.2.1 15 = .ok (.getfield 181, 3) := by decide +kernel
theorem dMo_act_18 : decode mMo_act.2.1 18 = .ok (.lload_n 2, 1) := by decide +kernel
theorem dMo_act_19 : decode mMo_act.2.1 19 = .ok (.lastore, 1) := by decide +kernel
theorem dMo_act_20 : decode mMo_act.2.1 20 = .ok (.aload_n 0, 1) := by decide +kernel
theorem dMo_act_21 : decode mMo_act.2.1 21 = .ok (.getfield 81, 3) := by decide +kernel
theorem dMo_act_24 : decode mMo_act.2.1 24 = .ok (.aload_n 0, 1) := by decide +kernel
theorem dMo_act_25 : decode mMo_act.2.1 25 = .ok (.getfield 181, 3) := by decide +kernel
theorem dMo_act_28 : decode mMo_act.2.1 28 = .ok (.iload 4, 2) := by decide +kernel
theorem dMo_act_30 : decode mMo_act.2.1 30 = .ok (.iastore, 1) := by decide +kernel
theorem dMo_act_31 : decode mMo_act.2.1 31 = .ok (.aload_n 0, 1) := by decide +kernel
theorem dMo_act_32 : decode mMo_act.2.1 32 = .ok (.dup, 1) := by decide +kernel
theorem dMo_act_33 : decode mMo_act.2.1 33 = .ok (.getfield 181, 3) := by decide +kernel
theorem dMo_act_36 : decode mMo_act.2.1 36 = .ok (.iconst 1, 1) := by decide +kernel
theorem dMo_act_37 : decode mMo_act.2.1 37 = .ok (.iadd, 1) := by decide +kernel
theorem dMo_act_38 : decode mMo_act.2.1 38 = .ok (.putfield 181, 3) := by decide +kernel
theorem dMo_act_41 : decode mMo_act.2.1 41 = .ok (.return_, 1) := by decide +kernel
theorem dMo_claim_0 : decode mMo_claim.2.1 0 = .ok (.aload_n 0, 1) := by decide +kernel
theorem dMo_claim_1 : decode mMo_claim.2.1 1 = .ok (.iload_n 1, 1) := by decide +kernel
theorem dMo_claim_2 : decode mMo_claim.2.1 2 = .ok (.lload_n 2, 1) := by decide +kernel
theorem dMo_claim_3 : decode mMo_claim.2.1 3 = .ok (.iload 4, 2) := by decide +kernel
theorem dMo_claim_5 : decode mMo_claim.2.1 5 = .ok (.invokevirtual 184, 3) := by decide +kernel
theorem dMo_claim_8 : decode mMo_claim.2.1 8 = .ok (.ifCond .ne 5, 3) := by decide +kernel
theorem dMo_claim_11 : decode mMo_claim.2.1 11 = .ok (.iconst (-1), 1) := by decide +kernel
theorem dMo_claim_12 : decode mMo_claim.2.1 12 = .ok (.ireturn, 1) := by decide +kernel
theorem dMo_claim_13 : decode mMo_claim.2.1 13 = .ok (.iload 4, 2) := by decide +kernel
theorem dMo_claim_15 : decode mMo_claim.2.1 15 = .ok (.aload_n 0, 1) := by decide +kernel
theorem dMo_claim_16 : decode mMo_claim.2.1 16 = .ok (.getfield 75, 3) := by decide +kernel
theorem dMo_claim_19 : decode mMo_claim.2.1 19 = .ok (.iload_n 1, 1) := by decide +kernel
theorem dMo_claim_20 : decode mMo_claim.2.1 20 = .ok (.iaload, 1) := by decide +kernel
theorem dMo_claim_21 : decode mMo_claim.2.1 21 = .ok (.if_icmp .le 5, 3) := by decide +kernel
theorem dMo_claim_24 : decode mMo_claim.2.1 24 = .ok (.iconst 1, 1) := by decide +kernel
theorem dMo_claim_25 : decode mMo_claim.2.1 25 = .ok (.ireturn, 1) := by decide +kernel
theorem dMo_claim_26 : decode mMo_claim.2.1 26 = .ok (.aload_n 0, 1) := by decide +kernel
theorem dMo_claim_27 : decode mMo_claim.2.1 27 = .ok (.iload_n 1, 1) := by decide +kernel
theorem dMo_claim_28 : decode mMo_claim.2.1 28 = .ok (.iload 4, 2) := by decide +kernel
theorem dMo_claim_30 : decode mMo_claim.2.1 30 = .ok (.invokevirtual 192, 3) := by decide +kernel
theorem dMo_claim_33 : decode mMo_claim.2.1 33 = .ok (.lload_n 2, 1) := by decide +kernel
theorem dMo_claim_34 : decode mMo_claim.2.1 34 = .ok (.lcmp, 1) := by decide +kernel
theorem dMo_claim_35 : decode mMo_claim.2.1 35 = .ok (.ifCond .lt 7, 3) := by decide +kernel
theorem dMo_claim_38 : decode mMo_claim.2.1 38 = .ok (.iconst 1, 1) := by decide +kernel
theorem dMo_claim_39 : decode mMo_claim.2.1 39 = .ok (.goto 4, 3) := by decide +kernel
theorem dMo_claim_42 : decode mMo_claim.2.1 42 = .ok (.iconst 0, 1) := by decide +kernel
theorem dMo_claim_43 : decode mMo_claim.2.1 43 = .ok (.istore 5, 2) := by decide +kernel
theorem dMo_claim_45 : decode mMo_claim.2.1 45 = .ok (.iconst 0, 1) := by decide +kernel
theorem dMo_claim_46 : decode mMo_claim.2.1 46 = .ok (.istore 6, 2) := by decide +kernel
theorem dMo_claim_48 : decode mMo_claim.2.1 48 = .ok (.iload 6, 2) := by decide +kernel
theorem dMo_claim_50 : decode mMo_claim.2.1 50 = .ok (.aload_n 0, 1) := by decide +kernel
theorem dMo_claim_51 : decode mMo_claim.2.1 51 = .ok (.getfield 181, 3) := by decide +kernel
theorem dMo_claim_54 : decode mMo_claim.2.1 54 = .ok (.if_icmp .ge 50, 3) := by decide +kernel
theorem dMo_claim_57 : decode mMo_claim.2.1 57 = .ok (.iload 5, 2) := by decide +kernel
theorem dMo_claim_59 : decode mMo_claim.2.1 59 = .ok (.ifCond .eq 36, 3) := by decide +kernel
theorem dMo_claim_62 : decode mMo_claim.2.1 62 = .ok (.aload_n 0, 1) := by decide +kernel
theorem dMo_claim_63 : decode mMo_claim.2.1 63 = .ok (.getfield 81, 3) := by decide +kernel
theorem dMo_claim_66 : decode mMo_claim.2.1 66 = .ok (.iload 6, 2) := by decide +kernel
theorem dMo_claim_68 : decode mMo_claim.2.1 68 = .ok (.iaload, 1) := by decide +kernel
theorem dMo_claim_69 : decode mMo_claim.2.1 69 = .ok (.iload 4, 2) := by decide +kernel
theorem dMo_claim_71 : decode mMo_claim.2.1 71 = .ok (.if_icmp .lt 20, 3) := by decide +kernel
theorem dMo_claim_74 : decode mMo_claim.2.1 74 = .ok (.aload_n 0, 1) := by decide +kernel
theorem dMo_claim_75 : decode mMo_claim.2.1 75 = .ok (.iload_n 1, 1) := by decide +kernel
theorem dMo_claim_76 : decode mMo_claim.2.1 76 = .ok (.aload_n 0, 1) := by decide +kernel
theorem dMo_claim_77 : decode mMo_claim.2.1 77 = .ok (.getfield 81, 3) := by decide +kernel
theorem dMo_claim_80 : decode mMo_claim.2.1 80 = .ok (.iload 6, 2) := by decide +kernel
theorem dMo_claim_82 : decode mMo_claim.2.1 82 = .ok (.iaload, 1) := by decide +kernel
theorem dMo_claim_83 : decode mMo_claim.2.1 83 = .ok (.invokevirtual 192, 3) := by decide +kernel
theorem dMo_claim_86 : decode mMo_claim.2.1 86 = .ok (.lload_n 2, 1) := by decide +kernel
theorem dMo_claim_87 : decode mMo_claim.2.1 87 = .ok (.lcmp, 1) := by decide +kernel
theorem dMo_claim_88 : decode mMo_claim.2.1 88 = .ok (.ifCond .lt 7, 3) := by decide +kernel
theorem dMo_claim_91 : decode mMo_claim.2.1 91 = .ok (.iconst 1, 1) := by decide +kernel
theorem dMo_claim_92 : decode mMo_claim.2.1 92 = .ok (.goto 4, 3) := by decide +kernel
theorem dMo_claim_95 : decode mMo_claim.2.1 95 = .ok (.iconst 0, 1) := by decide +kernel
theorem dMo_claim_96 : decode mMo_claim.2.1 96 = .ok (.istore 5, 2) := by decide +kernel
theorem dMo_claim_98 : decode mMo_claim.2.1 98 = .ok (.iinc 6 1, 3) := by decide +kernel
theorem dMo_claim_101 : decode mMo_claim.2.1 101 = .ok (.goto (-53), 3) := by decide +kernel
theorem dMo_claim_104 : decode mMo_claim.2.1 104 = .ok (.iload 5, 2) := by decide +kernel
theorem dMo_claim_106 : decode mMo_claim.2.1 106 = .ok (.ifCond .ne 5, 3) := by decide +kernel
theorem dMo_claim_109 : decode mMo_claim.2.1 109 = .ok (.iconst 2, 1) := by decide +kernel
theorem dMo_claim_110 : decode mMo_claim.2.1 110 = .ok (.ireturn, 1) := by decide +kernel
theorem dMo_claim_111 : decode mMo_claim.2.1 111 = .ok (.aload_n 0, 1) := by decide +kernel
theorem dMo_claim_112 : decode mMo_claim.2.1 112 = .ok (.iload_n 1, 1) := by decide +kernel
theorem dMo_claim_113 : decode mMo_claim.2.1 113 = .ok (.lload_n 2, 1) := by decide +kernel
theorem dMo_claim_114 : decode mMo_claim.2.1 114 = .ok (.lneg, 1) := by decide +kernel
theorem dMo_claim_115 : decode mMo_claim.2.1 115 = .ok (.iload 4, 2) := by decide +kernel
theorem dMo_claim_117 : decode mMo_claim.2.1 117 = .ok (.invokevirtual 188, 3) := by decide +kernel
theorem dMo_claim_120 : decode mMo_claim.2.1 120 = .ok (.iconst 0, 1) := by decide +kernel
theorem dMo_claim_121 : decode mMo_claim.2.1 121 = .ok (.ireturn, 1) := by decide +kernel
theorem dMo_balanceOf_0 : decode mMo_balanceOf.2.1 0 = .ok (.lconst 0, 1) := by decide +kernel
theorem dMo_balanceOf_1 : decode mMo_balanceOf.2.1 1 = .ok (.lstore_n 3, 1) := by decide +kernel
theorem dMo_balanceOf_2 : decode mMo_balanceOf.2.1 2 = .ok (.iconst 0, 1) := by decide +kernel
theorem dMo_balanceOf_3 : decode mMo_balanceOf.2.1 3 = .ok (.istore 5, 2) := by decide +kernel
theorem dMo_balanceOf_5 : decode mMo_balanceOf.2.1 5 = .ok (.iload 5, 2) := by decide +kernel
theorem dMo_balanceOf_7 : decode mMo_balanceOf.2.1 7 = .ok (.aload_n 0, 1) := by decide +kernel
theorem dMo_balanceOf_8 : decode mMo_balanceOf.2.1 8 = .ok (.getfield 181, 3) := by decide +kernel
theorem dMo_balanceOf_11 : decode mMo_balanceOf.2.1 11 = .ok (.if_icmp .ge 45, 3) := by decide +kernel
theorem dMo_balanceOf_14 : decode mMo_balanceOf.2.1 14 = .ok (.lload_n 3, 1) := by decide +kernel
theorem dMo_balanceOf_15 : decode mMo_balanceOf.2.1 15 = .ok (.aload_n 0, 1) := by decide +kernel
theorem dMo_balanceOf_16 : decode mMo_balanceOf.2.1 16 = .ok (.getfield 78, 3) := by decide +kernel
theorem dMo_balanceOf_19 : decode mMo_balanceOf.2.1 19 = .ok (.iload 5, 2) := by decide +kernel
theorem dMo_balanceOf_21 : decode mMo_balanceOf.2.1 21 = .ok (.iaload, 1) := by decide +kernel
theorem dMo_balanceOf_22 : decode mMo_balanceOf.2.1 22 = .ok (.iload_n 1, 1) := by decide +kernel
theorem dMo_balanceOf_23 : decode mMo_balanceOf.2.1 23 = .ok (.if_icmp .ne 24, 3) := by decide +kernel
theorem dMo_balanceOf_26 : decode mMo_balanceOf.2.1 26 = .ok (.aload_n 0, 1) := by decide +kernel
theorem dMo_balanceOf_27 : decode mMo_balanceOf.2.1 27 = .ok (.getfield 81, 3) := by decide +kernel
theorem dMo_balanceOf_30 : decode mMo_balanceOf.2.1 30 = .ok (.iload 5, 2) := by decide +kernel
theorem dMo_balanceOf_32 : decode mMo_balanceOf.2.1 32 = .ok (.iaload, 1) := by decide +kernel
theorem dMo_balanceOf_33 : decode mMo_balanceOf.2.1 33 = .ok (.iload_n 2, 1) := by decide +kernel
theorem dMo_balanceOf_34 : decode mMo_balanceOf.2.1 34 = .ok (.if_icmp .gt 13, 3) := by decide +kernel
theorem dMo_balanceOf_37 : decode mMo_balanceOf.2.1 37 = .ok (.aload_n 0, 1) := by decide +kernel
theorem dMo_balanceOf_38 : decode mMo_balanceOf.2.1 38 = .ok (.getfield 84, 3) := by decide +kernel
theorem dMo_balanceOf_41 : decode mMo_balanceOf.2.1 41 = .ok (.iload 5, 2) := by decide +kernel
theorem dMo_balanceOf_43 : decode mMo_balanceOf.2.1 43 = .ok (.laload, 1) := by decide +kernel
theorem dMo_balanceOf_44 : decode mMo_balanceOf.2.1 44 = .ok (.goto 4, 3) := by decide +kernel
theorem dMo_balanceOf_47 : decode mMo_balanceOf.2.1 47 = .ok (.lconst 0, 1) := by decide +kernel
theorem dMo_balanceOf_48 : decode mMo_balanceOf.2.1 48 = .ok (.ladd, 1) := by decide +kernel
theorem dMo_balanceOf_49 : decode mMo_balanceOf.2.1 49 = .ok (.lstore_n 3, 1) := by decide +kernel
theorem dMo_balanceOf_50 : decode mMo_balanceOf.2.1 50 = .ok (.iinc 5 1, 3) := by decide +kernel
theorem dMo_balanceOf_53 : decode mMo_balanceOf.2.1 53 = .ok (.goto (-48), 3) := by decide +kernel
theorem dMo_balanceOf_56 : decode mMo_balanceOf.2.1 56 = .ok (.lload_n 3, 1) := by decide +kernel
theorem dMo_balanceOf_57 : decode mMo_balanceOf.2.1 57 = .ok (.lreturn, 1) := by decide +kernel
theorem dMo_balance_0 : decode mMo_balance.2.1 0 = .ok (.iload_n 1, 1) := by decide +kernel
theorem dMo_balance_1 : decode mMo_balance.2.1 1 = .ok (.ifCond .lt 11, 3) := by decide +kernel
theorem dMo_balance_4 : decode mMo_balance.2.1 4 = .ok (.iload_n 1, 1) := by decide +kernel
theorem dMo_balance_5 : decode mMo_balance.2.1 5 = .ok (.aload_n 0, 1) := by decide +kernel
theorem dMo_balance_6 : decode mMo_balance.2.1 6 = .ok (.getfield 178, 3) := by decide +kernel
theorem dMo_balance_9 : decode mMo_balance.2.1 9 = .ok (.if_icmp .lt 9, 3) := by decide +kernel
theorem dMo_balance_12 : decode mMo_balance.2.1 12 = .ok (.ldc2_w 138, 3) := by decide +kernel
theorem dMo_balance_15 : decode mMo_balance.2.1 15 = .ok (.goto 9, 3) := by decide +kernel
theorem dMo_balance_18 : decode mMo_balance.2.1 18 = .ok (.aload_n 0, 1) := by decide +kernel
theorem dMo_balance_19 : decode mMo_balance.2.1 19 = .ok (.iload_n 1, 1) := by decide +kernel
theorem dMo_balance_20 : decode mMo_balance.2.1 20 = .ok (.iload_n 2, 1) := by decide +kernel
theorem dMo_balance_21 : decode mMo_balance.2.1 21 = .ok (.invokevirtual 192, 3) := by decide +kernel
theorem dMo_balance_24 : decode mMo_balance.2.1 24 = .ok (.lreturn, 1) := by decide +kernel
theorem dMo_warm_0 : decode mMo_warm.2.1 0 = .ok (.aload_n 0, 1) := by decide +kernel
theorem dMo_warm_1 : decode mMo_warm.2.1 1 = .ok (.iload_n 1, 1) := by decide +kernel
theorem dMo_warm_2 : decode mMo_warm.2.1 2 = .ok (.invokevirtual 94, 3) := by decide +kernel
theorem dMo_warm_5 : decode mMo_warm.2.1 5 = .ok (.ifCond .eq 15, 3) := by decide +kernel
theorem dMo_warm_8 : decode mMo_warm.2.1 8 = .ok (.iload_n 2, 1) := by decide +kernel
theorem dMo_warm_9 : decode mMo_warm.2.1 9 = .ok (.iconst 1, 1) := by decide +kernel
theorem dMo_warm_10 : decode mMo_warm.2.1 10 = .ok (.if_icmp .lt 10, 3) := by decide +kernel
theorem dMo_warm_13 : decode mMo_warm.2.1 13 = .ok (.iload_n 2, 1) := by decide +kernel
theorem dMo_warm_14 : decode mMo_warm.2.1 14 = .ok (.sipush 4000, 3) := by decide +kernel
theorem dMo_warm_17 : decode mMo_warm.2.1 17 = .ok (.if_icmp .le 5, 3) := by decide +kernel
theorem dMo_warm_20 : decode mMo_warm.2.1 20 = .ok (.iconst 0, 1) := by decide +kernel
theorem dMo_warm_21 : decode mMo_warm.2.1 21 = .ok (.ireturn, 1) := by decide +kernel
theorem dMo_warm_22 : decode mMo_warm.2.1 22 = .ok (.aload_n 0, 1) := by decide +kernel
theorem dMo_warm_23 : decode mMo_warm.2.1 23 = .ok (.getfield 30, 3) := by decide +kernel
theorem dMo_warm_26 : decode mMo_warm.2.1 26 = .ok (.iload_n 1, 1) := by decide +kernel
theorem dMo_warm_27 : decode mMo_warm.2.1 27 = .ok (.iload_n 2, 1) := by decide +kernel
theorem dMo_warm_28 : decode mMo_warm.2.1 28 = .ok (.aload_n 0, 1) := by decide +kernel
theorem dMo_warm_29 : decode mMo_warm.2.1 29 = .ok (.getfield 30, 3) := by decide +kernel
theorem dMo_warm_32 : decode mMo_warm.2.1 32 = .ok (.iload_n 1, 1) := by decide +kernel
theorem dMo_warm_33 : decode mMo_warm.2.1 33 = .ok (.iaload, 1) := by decide +kernel
theorem dMo_warm_34 : decode mMo_warm.2.1 34 = .ok (.if_icmp .le 7, 3) := by decide +kernel
theorem dMo_warm_37 : decode mMo_warm.2.1 37 = .ok (.iload_n 2, 1) := by decide +kernel
theorem dMo_warm_38 : decode mMo_warm.2.1 38 = .ok (.goto 9, 3) := by decide +kernel
theorem dMo_warm_41 : decode mMo_warm.2.1 41 = .ok (.aload_n 0, 1) := by decide +kernel
theorem dMo_warm_42 : decode mMo_warm.2.1 42 = .ok (.getfield 30, 3) := by decide +kernel
theorem dMo_warm_45 : decode mMo_warm.2.1 45 = .ok (.iload_n 1, 1) := by decide +kernel
theorem dMo_warm_46 : decode mMo_warm.2.1 46 = .ok (.iaload, 1) := by decide +kernel
theorem dMo_warm_47 : decode mMo_warm.2.1 47 = .ok (.iastore, 1) := by decide +kernel
theorem dMo_warm_48 : decode mMo_warm.2.1 48 = .ok (.iconst 1, 1) := by decide +kernel
theorem dMo_warm_49 : decode mMo_warm.2.1 49 = .ok (.ireturn, 1) := by decide +kernel
theorem dMo_paper_0 : decode mMo_paper.2.1 0 = .ok (.aload_n 0, 1) := by decide +kernel
theorem dMo_paper_1 : decode mMo_paper.2.1 1 = .ok (.iload_n 1, 1) := by decide +kernel
theorem dMo_paper_2 : decode mMo_paper.2.1 2 = .ok (.iconst 3, 1) := by decide +kernel
theorem dMo_paper_3 : decode mMo_paper.2.1 3 = .ok (.invokevirtual 116, 3) := by decide +kernel
theorem dMo_paper_6 : decode mMo_paper.2.1 6 = .ok (.ifCond .eq 13, 3) := by decide +kernel
theorem dMo_paper_9 : decode mMo_paper.2.1 9 = .ok (.iload_n 2, 1) := by decide +kernel
theorem dMo_paper_10 : decode mMo_paper.2.1 10 = .ok (.ifCond .lt 9, 3) := by decide +kernel
theorem dMo_paper_13 : decode mMo_paper.2.1 13 = .ok (.iload_n 2, 1) := by decide +kernel
theorem dMo_paper_14 : decode mMo_paper.2.1 14 = .ok (.bipush 99, 2) := by decide +kernel
theorem dMo_paper_16 : decode mMo_paper.2.1 16 = .ok (.if_icmp .le 5, 3) := by decide +kernel
theorem dMo_paper_19 : decode mMo_paper.2.1 19 = .ok (.iconst (-1), 1) := by decide +kernel
theorem dMo_paper_20 : decode mMo_paper.2.1 20 = .ok (.ireturn, 1) := by decide +kernel
theorem dMo_paper_21 : decode mMo_paper.2.1 21 = .ok (.aload_n 0, 1) := by decide +kernel
theorem dMo_paper_22 : decode mMo_paper.2.1 22 = .ok (.iconst 0, 1) := by decide +kernel
theorem dMo_paper_23 : decode mMo_paper.2.1 23 = .ok (.putfield 195, 3) := by decide +kernel
theorem dMo_paper_26 : decode mMo_paper.2.1 26 = .ok (.aload_n 0, 1) := by decide +kernel
theorem dMo_paper_27 : decode mMo_paper.2.1 27 = .ok (.iload_n 2, 1) := by decide +kernel
theorem dMo_paper_28 : decode mMo_paper.2.1 28 = .ok (.i2l, 1) := by decide +kernel
theorem dMo_paper_29 : decode mMo_paper.2.1 29 = .ok (.invokevirtual 205, 3) := by decide +kernel
theorem dMo_paper_32 : decode mMo_paper.2.1 32 = .ok (.aload_n 0, 1) := by decide +kernel
theorem dMo_paper_33 : decode mMo_paper.2.1 33 = .ok (.bipush 47, 2) := by decide +kernel
theorem dMo_paper_35 : decode mMo_paper.2.1 35 = .ok (.invokevirtual 202, 3) := by decide +kernel
theorem dMo_paper_38 : decode mMo_paper.2.1 38 = .ok (.aload_n 0, 1) := by decide +kernel
theorem dMo_paper_39 : decode mMo_paper.2.1 39 = .ok (.iload_n 1, 1) := by decide +kernel
theorem dMo_paper_40 : decode mMo_paper.2.1 40 = .ok (.i2l, 1) := by decide +kernel
theorem dMo_paper_41 : decode mMo_paper.2.1 41 = .ok (.invokevirtual 205, 3) := by decide +kernel
theorem dMo_paper_44 : decode mMo_paper.2.1 44 = .ok (.iconst 0, 1) := by decide +kernel
theorem dMo_paper_45 : decode mMo_paper.2.1 45 = .ok (.istore 4, 2) := by decide +kernel
theorem dMo_paper_47 : decode mMo_paper.2.1 47 = .ok (.iload 4, 2) := by decide +kernel
theorem dMo_paper_49 : decode mMo_paper.2.1 49 = .ok (.aload_n 0, 1) := by decide +kernel
theorem dMo_paper_50 : decode mMo_paper.2.1 50 = .ok (.getfield 13, 3) := by decide +kernel
theorem dMo_paper_53 : decode mMo_paper.2.1 53 = .ok (.iload_n 1, 1) := by decide +kernel
theorem dMo_paper_54 : decode mMo_paper.2.1 54 = .ok (.iaload, 1) := by decide +kernel
theorem dMo_paper_55 : decode mMo_paper.2.1 55 = .ok (.if_icmp .ge 54, 3) := by decide +kernel
theorem dMo_paper_58 : decode mMo_paper.2.1 58 = .ok (.aload_n 0, 1) := by decide +kernel
theorem dMo_paper_59 : decode mMo_paper.2.1 59 = .ok (.bipush 32, 2) := by decide +kernel
theorem dMo_paper_61 : decode mMo_paper.2.1 61 = .ok (.invokevirtual 202, 3) := by decide +kernel
theorem dMo_paper_64 : decode mMo_paper.2.1 64 = .ok (.aload_n 0, 1) := by decide +kernel
theorem dMo_paper_65 : decode mMo_paper.2.1 65 = .ok (.aload_n 0, 1) := by decide +kernel
theorem dMo_paper_66 : decode mMo_paper.2.1 66 = .ok (.getfield 16, 3) := by decide +kernel
theorem dMo_paper_69 : decode mMo_paper.2.1 69 = .ok (.bipush 81, 2) := by decide +kernel
theorem dMo_paper_71 : decode mMo_paper.2.1 71 = .ok (.iload_n 1, 1) := by decide +kernel
theorem dMo_paper_72 : decode mMo_paper.2.1 72 = .ok (.imul, 1) := by decide +kernel
theorem dMo_paper_73 : decode mMo_paper.2.1 73 = .ok (.iload 4, 2) := by decide +kernel
theorem dMo_paper_75 : decode mMo_paper.2.1 75 = .ok (.iadd, 1) := by decide +kernel
theorem dMo_paper_76 : decode mMo_paper.2.1 76 = .ok (.iaload, 1) := by decide +kernel
theorem dMo_paper_77 : decode mMo_paper.2.1 77 = .ok (.i2l, 1) := by decide +kernel
theorem dMo_paper_78 : decode mMo_paper.2.1 78 = .ok (.invokevirtual 205, 3) := by decide +kernel
theorem dMo_paper_81 : decode mMo_paper.2.1 81 = .ok (.aload_n 0, 1) := by decide +kernel
theorem dMo_paper_82 : decode mMo_paper.2.1 82 = .ok (.bipush 58, 2) := by decide +kernel
theorem dMo_paper_84 : decode mMo_paper.2.1 84 = .ok (.invokevirtual 202, 3) := by decide +kernel
theorem dMo_paper_87 : decode mMo_paper.2.1 87 = .ok (.aload_n 0, 1) := by decide +kernel
theorem dMo_paper_88 : decode mMo_paper.2.1 88 = .ok (.aload_n 0, 1) := by decide +kernel
theorem dMo_paper_89 : decode mMo_paper.2.1 89 = .ok (.getfield 19, 3) := by decide +kernel
theorem dMo_paper_92 : decode mMo_paper.2.1 92 = .ok (.bipush 81, 2) := by decide +kernel
theorem dMo_paper_94 : decode mMo_paper.2.1 94 = .ok (.iload_n 1, 1) := by decide +kernel
theorem dMo_paper_95 : decode mMo_paper.2.1 95 = .ok (.imul, 1) := by decide +kernel
theorem dMo_paper_96 : decode mMo_paper.2.1 96 = .ok (.iload 4, 2) := by decide +kernel
theorem dMo_paper_98 : decode mMo_paper.2.1 98 = .ok (.iadd, 1) := by decide +kernel
theorem dMo_paper_99 : decode mMo_paper.2.1 99 = .ok (.laload, 1) := by decide +kernel
theorem dMo_paper_100 : decode mMo_paper.2.1 100 = .ok (.invokevirtual 205, 3) := by decide +kernel
theorem dMo_paper_103 : decode mMo_paper.2.1 103 = .ok (.iinc 4 1, 3) := by decide +kernel
theorem dMo_paper_106 : decode mMo_paper.2.1 106 = .ok (.goto (-59), 3) := by decide +kernel
theorem dMo_paper_109 : decode mMo_paper.2.1 109 = .ok (.iload_n 3, 1) := by decide +kernel
theorem dMo_paper_110 : decode mMo_paper.2.1 110 = .ok (.ifCond .lt 11, 3) := by decide +kernel
theorem dMo_paper_113 : decode mMo_paper.2.1 113 = .ok (.iload_n 3, 1) := by decide +kernel
theorem dMo_paper_114 : decode mMo_paper.2.1 114 = .ok (.aload_n 0, 1) := by decide +kernel
theorem dMo_paper_115 : decode mMo_paper.2.1 115 = .ok (.getfield 195, 3) := by decide +kernel
theorem dMo_paper_118 : decode mMo_paper.2.1 118 = .ok (.if_icmp .lt 7, 3) := by decide +kernel
theorem dMo_paper_121 : decode mMo_paper.2.1 121 = .ok (.iconst (-1), 1) := by decide +kernel
theorem dMo_paper_122 : decode mMo_paper.2.1 122 = .ok (.goto 9, 3) := by decide +kernel
theorem dMo_paper_125 : decode mMo_paper.2.1 125 = .ok (.aload_n 0, 1) := by decide +kernel
theorem dMo_paper_126 : decode mMo_paper.2.1 126 = .ok (.getfield 87, 3) := by decide +kernel
theorem dMo_paper_129 : decode mMo_paper.2.1 129 = .ok (.iload_n 3, 1) := by decide +kernel
theorem dMo_paper_130 : decode mMo_paper.2.1 130 = .ok (.iaload, 1) := by decide +kernel
theorem dMo_paper_131 : decode mMo_paper.2.1 131 = .ok (.ireturn, 1) := by decide +kernel
theorem dMo_writeNumber_0 : decode mMo_writeNumber.2.1 0 = .ok (.lconst 1, 1) := by decide +kernel
theorem dMo_writeNumber_1 : decode mMo_writeNumber.2.1 1 = .ok (.lstore_n 3, 1) := by decide +kernel
theorem dMo_writeNumber_2 : decode mMo_writeNumber.2.1 2 = .ok (.lload_n 1, 1) := by decide +kernel
theorem dMo_writeNumber_3 : decode mMo_writeNumber.2.1 3 = .ok (.lload_n 3, 1) := by decide +kernel
theorem dMo_writeNumber_4 : decode mMo_writeNumber.2.1 4 = .ok (.ldiv, 1) := by decide +kernel
theorem dMo_writeNumber_5 : decode mMo_writeNumber.2.1 5 = .ok (.ldc2_w 198, 3) := by decide +kernel
theorem dMo_writeNumber_8 : decode mMo_writeNumber.2.1 8 = .ok (.lcmp, 1) := by decide +kernel
theorem dMo_writeNumber_9 : decode mMo_writeNumber.2.1 9 = .ok (.ifCond .le 12, 3) := by decide +kernel
theorem dMo_writeNumber_12 : decode mMo_writeNumber.2.1 12 = .ok (.ldc2_w 200, 3) := by decide +kernel
theorem dMo_writeNumber_15 : decode mMo_writeNumber.2.1 15 = .ok (.lload_n 3, 1) := by decide +kernel
theorem dMo_writeNumber_16 : decode mMo_writeNumber.2.1 16 = .ok (.lmul, 1) := by decide +kernel
theorem dMo_writeNumber_17 : decode mMo_writeNumber.2.1 17 = .ok (.lstore_n 3, 1) := by decide +kernel
theorem dMo_writeNumber_18 : decode mMo_writeNumber.2.1 18 = .ok (.goto (-16), 3) := by decide +kernel
theorem dMo_writeNumber_21 : decode mMo_writeNumber.2.1 21 = .ok (.lload_n 3, 1) := by decide +kernel
theorem dMo_writeNumber_22 : decode mMo_writeNumber.2.1 22 = .ok (.lconst 0, 1) := by decide +kernel
theorem dMo_writeNumber_23 : decode mMo_writeNumber.2.1 23 = .ok (.lcmp, 1) := by decide +kernel
theorem dMo_writeNumber_24 : decode mMo_writeNumber.2.1 24 = .ok (.ifCond .le 27, 3) := by decide +kernel
theorem dMo_writeNumber_27 : decode mMo_writeNumber.2.1 27 = .ok (.aload_n 0, 1) := by decide +kernel
theorem dMo_writeNumber_28 : decode mMo_writeNumber.2.1 28 = .ok (.bipush 48, 2) := by decide +kernel
theorem dMo_writeNumber_30 : decode mMo_writeNumber.2.1 30 = .ok (.lload_n 1, 1) := by decide +kernel
theorem dMo_writeNumber_31 : decode mMo_writeNumber.2.1 31 = .ok (.lload_n 3, 1) := by decide +kernel
theorem dMo_writeNumber_32 : decode mMo_writeNumber.2.1 32 = .ok (.ldiv, 1) := by decide +kernel
theorem dMo_writeNumber_33 : decode mMo_writeNumber.2.1 33 = .ok (.ldc2_w 200, 3) := by decide +kernel
theorem dMo_writeNumber_36 : decode mMo_writeNumber.2.1 36 = .ok (.lrem, 1) := by decide +kernel
theorem dMo_writeNumber_37 : decode mMo_writeNumber.2.1 37 = .ok (.l2i, 1) := by decide +kernel
theorem dMo_writeNumber_38 : decode mMo_writeNumber.2.1 38 = .ok (.iadd, 1) := by decide +kernel
theorem dMo_writeNumber_39 : decode mMo_writeNumber.2.1 39 = .ok (.invokevirtual 202, 3) := by decide +kernel
theorem dMo_writeNumber_42 : decode mMo_writeNumber.2.1 42 = .ok (.lload_n 3, 1) := by decide +kernel
theorem dMo_writeNumber_43 : decode mMo_writeNumber.2.1 43 = .ok (.ldc2_w 200, 3) := by decide +kernel
theorem dMo_writeNumber_46 : decode mMo_writeNumber.2.1 46 = .ok (.ldiv, 1) := by decide +kernel
theorem dMo_writeNumber_47 : decode mMo_writeNumber.2.1 47 = .ok (.lstore_n 3, 1) := by decide +kernel
theorem dMo_writeNumber_48 : decode mMo_writeNumber.2.1 48 = .ok (.goto (-27), 3) := by decide +kernel
theorem dMo_writeNumber_51 : decode mMo_writeNumber.2.1 51 = .ok (.return_, 1) := by decide +kernel
theorem dMo_write_0 : decode mMo_write.2.1 0 = .ok (.aload_n 0, 1) := by decide +kernel
theorem dMo_write_1 : decode mMo_write.2.1 1 = .ok (.getfield 87, 3) := by decide +kernel
theorem dMo_write_4 : decode mMo_write.2.1 4 = .ok (.aload_n 0, 1) := by decide +kernel
theorem dMo_write_5 : decode mMo_write.2.1 5 = .ok (.getfield 195, 3) := by decide +kernel
theorem dMo_write_8 : decode mMo_write.2.1 8 = .ok (.iload_n 1, 1) := by decide +kernel
theorem dMo_write_9 : decode mMo_write.2.1 9 = .ok (.iastore, 1) := by decide +kernel
theorem dMo_write_10 : decode mMo_write.2.1 10 = .ok (.aload_n 0, 1) := by decide +kernel
theorem dMo_write_11 : decode mMo_write.2.1 11 = .ok (.dup, 1) := by decide +kernel
theorem dMo_write_12 : decode mMo_write.2.1 12 = .ok (.getfield 195, 3) := by decide +kernel
theorem dMo_write_15 : decode mMo_write.2.1 15 = .ok (.iconst 1, 1) := by decide +kernel
theorem dMo_write_16 : decode mMo_write.2.1 16 = .ok (.iadd, 1) := by decide +kernel
theorem dMo_write_17 : decode mMo_write.2.1 17 = .ok (.putfield 195, 3) := by decide +kernel
theorem dMo_write_20 : decode mMo_write.2.1 20 = .ok (.return_, 1) := by decide +kernel
theorem dMo_all_0 : decode mMo_all.2.1 0 = .ok (.lconst 0, 1) := by decide +kernel
theorem dMo_all_1 : decode mMo_all.2.1 1 = .ok (.lstore_n 2, 1) := by decide +kernel
theorem dMo_all_2 : decode mMo_all.2.1 2 = .ok (.iload_n 1, 1) := by decide +kernel
theorem dMo_all_3 : decode mMo_all.2.1 3 = .ok (.tableswitch 129 0 7 #[45, 75, 75, 75, 81, 111, 117, 123], 45) := by decide +kernel
theorem dMo_all_48 : decode mMo_all.2.1 48 = .ok (.iconst 0, 1) := by decide +kernel
theorem dMo_all_49 : decode mMo_all.2.1 49 = .ok (.istore 4, 2) := by decide +kernel
theorem dMo_all_51 : decode mMo_all.2.1 51 = .ok (.iload 4, 2) := by decide +kernel
theorem dMo_all_53 : decode mMo_all.2.1 53 = .ok (.aload_n 0, 1) := by decide +kernel
theorem dMo_all_54 : decode mMo_all.2.1 54 = .ok (.getfield 90, 3) := by decide +kernel
theorem dMo_all_57 : decode mMo_all.2.1 57 = .ok (.if_icmp .ge 19, 3) := by decide +kernel
theorem dMo_all_60 : decode mMo_all.2.1 60 = .ok (.lload_n 2, 1) := by decide +kernel
theorem dMo_all_61 : decode mMo_all.2.1 61 = .ok (.aload_n 0, 1) := by decide +kernel
theorem dMo_all_62 : decode mMo_all.2.1 62 = .ok (.getfield 39, 3) := by decide +kernel
theorem dMo_all_65 : decode mMo_all.2.1 65 = .ok (.iload 4, 2) := by decide +kernel
theorem dMo_all_67 : decode mMo_all.2.1 67 = .ok (.laload, 1) := by decide +kernel
theorem dMo_all_68 : decode mMo_all.2.1 68 = .ok (.ladd, 1) := by decide +kernel
theorem dMo_all_69 : decode mMo_all.2.1 69 = .ok (.lstore_n 2, 1) := by decide +kernel
theorem dMo_all_70 : decode mMo_all.2.1 70 = .ok (.iinc 4 1, 3) := by decide +kernel
theorem dMo_all_73 : decode mMo_all.2.1 73 = .ok (.goto (-22), 3) := by decide +kernel
theorem dMo_all_76 : decode mMo_all.2.1 76 = .ok (.lload_n 2, 1) := by decide +kernel
theorem dMo_all_77 : decode mMo_all.2.1 77 = .ok (.lreturn, 1) := by decide +kernel
theorem dMo_all_78 : decode mMo_all.2.1 78 = .ok (.aload_n 0, 1) := by decide +kernel
theorem dMo_all_79 : decode mMo_all.2.1 79 = .ok (.iload_n 1, 1) := by decide +kernel
theorem dMo_all_80 : decode mMo_all.2.1 80 = .ok (.invokevirtual 209, 3) := by decide +kernel
theorem dMo_all_83 : decode mMo_all.2.1 83 = .ok (.lreturn, 1) := by decide +kernel
theorem dMo_all_84 : decode mMo_all.2.1 84 = .ok (.iconst 0, 1) := by decide +kernel
theorem dMo_all_85 : decode mMo_all.2.1 85 = .ok (.istore 4, 2) := by decide +kernel
theorem dMo_all_87 : decode mMo_all.2.1 87 = .ok (.iload 4, 2) := by decide +kernel
theorem dMo_all_89 : decode mMo_all.2.1 89 = .ok (.aload_n 0, 1) := by decide +kernel
theorem dMo_all_90 : decode mMo_all.2.1 90 = .ok (.getfield 90, 3) := by decide +kernel
theorem dMo_all_93 : decode mMo_all.2.1 93 = .ok (.if_icmp .ge 19, 3) := by decide +kernel
theorem dMo_all_96 : decode mMo_all.2.1 96 = .ok (.lload_n 2, 1) := by decide +kernel
theorem dMo_all_97 : decode mMo_all.2.1 97 = .ok (.aload_n 0, 1) := by decide +kernel
theorem dMo_all_98 : decode mMo_all.2.1 98 = .ok (.getfield 23, 3) := by decide +kernel
theorem dMo_all_101 : decode mMo_all.2.1 101 = .ok (.iload 4, 2) := by decide +kernel
theorem dMo_all_103 : decode mMo_all.2.1 103 = .ok (.laload, 1) := by decide +kernel
theorem dMo_all_104 : decode mMo_all.2.1 104 = .ok (.ladd, 1) := by decide +kernel
theorem dMo_all_105 : decode mMo_all.2.1 105 = .ok (.lstore_n 2, 1) := by decide +kernel
theorem dMo_all_106 : decode mMo_all.2.1 106 = .ok (.iinc 4 1, 3) := by decide +kernel
theorem dMo_all_109 : decode mMo_all.2.1 109 = .ok (.goto (-22), 3) := by decide +kernel
theorem dMo_all_112 : decode mMo_all.2.1 112 = .ok (.lload_n 2, 1) := by decide +kernel
theorem dMo_all_113 : decode mMo_all.2.1 113 = .ok (.lreturn, 1) := by decide +kernel
theorem dMo_all_114 : decode mMo_all.2.1 114 = .ok (.aload_n 0, 1) := by decide +kernel
theorem dMo_all_115 : decode mMo_all.2.1 115 = .ok (.getfield 90, 3) := by decide +kernel
theorem dMo_all_118 : decode mMo_all.2.1 118 = .ok (.i2l, 1) := by decide +kernel
theorem dMo_all_119 : decode mMo_all.2.1 119 = .ok (.lreturn, 1) := by decide +kernel
theorem dMo_all_120 : decode mMo_all.2.1 120 = .ok (.aload_n 0, 1) := by decide +kernel
theorem dMo_all_121 : decode mMo_all.2.1 121 = .ok (.getfield 175, 3) := by decide +kernel
theorem dMo_all_124 : decode mMo_all.2.1 124 = .ok (.i2l, 1) := by decide +kernel
theorem dMo_all_125 : decode mMo_all.2.1 125 = .ok (.lreturn, 1) := by decide +kernel
theorem dMo_all_126 : decode mMo_all.2.1 126 = .ok (.aload_n 0, 1) := by decide +kernel
theorem dMo_all_127 : decode mMo_all.2.1 127 = .ok (.getfield 178, 3) := by decide +kernel
theorem dMo_all_130 : decode mMo_all.2.1 130 = .ok (.i2l, 1) := by decide +kernel
theorem dMo_all_131 : decode mMo_all.2.1 131 = .ok (.lreturn, 1) := by decide +kernel
theorem dMo_all_132 : decode mMo_all.2.1 132 = .ok (.ldc2_w 138, 3) := by decide +kernel
theorem dMo_all_135 : decode mMo_all.2.1 135 = .ok (.lreturn, 1) := by decide +kernel
theorem dMo_allIn_0 : decode mMo_allIn.2.1 0 = .ok (.lconst 0, 1) := by decide +kernel
theorem dMo_allIn_1 : decode mMo_allIn.2.1 1 = .ok (.lstore_n 2, 1) := by decide +kernel
theorem dMo_allIn_2 : decode mMo_allIn.2.1 2 = .ok (.iconst 0, 1) := by decide +kernel
theorem dMo_allIn_3 : decode mMo_allIn.2.1 3 = .ok (.istore 4, 2) := by decide +kernel
theorem dMo_allIn_5 : decode mMo_allIn.2.1 5 = .ok (.iload 4, 2) := by decide +kernel
theorem dMo_allIn_7 : decode mMo_allIn.2.1 7 = .ok (.aload_n 0, 1) := by decide +kernel
theorem dMo_allIn_8 : decode mMo_allIn.2.1 8 = .ok (.getfield 90, 3) := by decide +kernel
theorem dMo_allIn_11 : decode mMo_allIn.2.1 11 = .ok (.if_icmp .ge 33, 3) := by decide +kernel
theorem dMo_allIn_14 : decode mMo_allIn.2.1 14 = .ok (.lload_n 2, 1) := by decide +kernel
theorem dMo_allIn_15 : decode mMo_allIn.2.1 15 = .ok (.aload_n 0, 1) := by decide +kernel
theorem dMo_allIn_16 : decode mMo_allIn.2.1 16 = .ok (.getfield 7, 3) := by decide +kernel
theorem dMo_allIn_19 : decode mMo_allIn.2.1 19 = .ok (.iload 4, 2) := by decide +kernel
theorem dMo_allIn_21 : decode mMo_allIn.2.1 21 = .ok (.iaload, 1) := by decide +kernel
theorem dMo_allIn_22 : decode mMo_allIn.2.1 22 = .ok (.iload_n 1, 1) := by decide +kernel
theorem dMo_allIn_23 : decode mMo_allIn.2.1 23 = .ok (.if_icmp .ne 12, 3) := by decide +kernel
theorem dMo_allIn_26 : decode mMo_allIn.2.1 26 = .ok (.aload_n 0, 1) := by decide +kernel
theorem dMo_allIn_27 : decode mMo_allIn.2.1 27 = .ok (.iload 4, 2) := by decide +kernel
theorem dMo_allIn_29 : decode mMo_allIn.2.1 29 = .ok (.invokevirtual 112, 3) := by decide +kernel
theorem dMo_allIn_32 : decode mMo_allIn.2.1 32 = .ok (.goto 4, 3) := by decide +kernel
theorem dMo_allIn_35 : decode mMo_allIn.2.1 35 = .ok (.lconst 0, 1) := by decide +kernel
theorem dMo_allIn_36 : decode mMo_allIn.2.1 36 = .ok (.ladd, 1) := by decide +kernel
theorem dMo_allIn_37 : decode mMo_allIn.2.1 37 = .ok (.lstore_n 2, 1) := by decide +kernel
theorem dMo_allIn_38 : decode mMo_allIn.2.1 38 = .ok (.iinc 4 1, 3) := by decide +kernel
theorem dMo_allIn_41 : decode mMo_allIn.2.1 41 = .ok (.goto (-36), 3) := by decide +kernel
theorem dMo_allIn_44 : decode mMo_allIn.2.1 44 = .ok (.lload_n 2, 1) := by decide +kernel
theorem dMo_allIn_45 : decode mMo_allIn.2.1 45 = .ok (.lreturn, 1) := by decide +kernel
