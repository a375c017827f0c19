theorem dX10_init_0 : decode cX10_init 0 = .ok (.aload_n 0, 1) := by decide +kernel
theorem dX10_init_1 : decode cX10_init 1 = .ok (.invokespecial 1, 3) := by decide +kernel
theorem dX10_init_4 : decode cX10_init 4 = .ok (.aload_n 0, 1) := by decide +kernel
theorem dX10_init_5 : decode cX10_init 5 = .ok (.sipush 3510, 3) := by decide +kernel
theorem dX10_init_8 : decode cX10_init 8 = .ok (.newarray .int, 2) := by decide +kernel
theorem dX10_init_10 : decode cX10_init 10 = .ok (.putfield 7, 3) := by decide +kernel
theorem dX10_init_13 : decode cX10_init 13 = .ok (.aload_n 0, 1) := by decide +kernel
theorem dX10_init_14 : decode cX10_init 14 = .ok (.sipush 3510, 3) := by decide +kernel
theorem dX10_init_17 : decode cX10_init 17 = .ok (.newarray .int, 2) := by decide +kernel
theorem dX10_init_19 : decode cX10_init 19 = .ok (.putfield 13, 3) := by decide +kernel
theorem dX10_init_22 : decode cX10_init 22 = .ok (.aload_n 0, 1) := by decide +kernel
theorem dX10_init_23 : decode cX10_init 23 = .ok (.sipush 3510, 3) := by decide +kernel
theorem dX10_init_26 : decode cX10_init 26 = .ok (.newarray .int, 2) := by decide +kernel
theorem dX10_init_28 : decode cX10_init 28 = .ok (.putfield 16, 3) := by decide +kernel
theorem dX10_init_31 : decode cX10_init 31 = .ok (.aload_n 0, 1) := by decide +kernel
theorem dX10_init_32 : decode cX10_init 32 = .ok (.iconst 4, 1) := by decide +kernel
theorem dX10_init_33 : decode cX10_init 33 = .ok (.newarray .int, 2) := by decide +kernel
theorem dX10_init_35 : decode cX10_init 35 = .ok (.putfield 19, 3) := by decide +kernel
theorem dX10_init_38 : decode cX10_init 38 = .ok (.aload_n 0, 1) := by decide +kernel
theorem dX10_init_39 : decode cX10_init 39 = .ok (.iconst 4, 1) := by decide +kernel
theorem dX10_init_40 : decode cX10_init 40 = .ok (.newarray .int, 2) := by decide +kernel
theorem dX10_init_42 : decode cX10_init 42 = .ok (.putfield 22, 3) := by decide +kernel
theorem dX10_init_45 : decode cX10_init 45 = .ok (.aload_n 0, 1) := by decide +kernel
theorem dX10_init_46 : decode cX10_init 46 = .ok (.bipush 96, 2) := by decide +kernel
theorem dX10_init_48 : decode cX10_init 48 = .ok (.newarray .int, 2) := by decide +kernel
theorem dX10_init_50 : decode cX10_init 50 = .ok (.putfield 25, 3) := by decide +kernel
theorem dX10_init_53 : decode cX10_init 53 = .ok (.aload_n 0, 1) := by decide +kernel
theorem dX10_init_54 : decode cX10_init 54 = .ok (.iconst 5, 1) := by decide +kernel
theorem dX10_init_55 : decode cX10_init 55 = .ok (.newarray .int, 2) := by decide +kernel
theorem dX10_init_57 : decode cX10_init 57 = .ok (.putfield 28, 3) := by decide +kernel
theorem dX10_init_60 : decode cX10_init 60 = .ok (.aload_n 0, 1) := by decide +kernel
theorem dX10_init_61 : decode cX10_init 61 = .ok (.iconst 5, 1) := by decide +kernel
theorem dX10_init_62 : decode cX10_init 62 = .ok (.newarray .int, 2) := by decide +kernel
theorem dX10_init_64 : decode cX10_init 64 = .ok (.putfield 31, 3) := by decide +kernel
theorem dX10_init_67 : decode cX10_init 67 = .ok (.aload_n 0, 1) := by decide +kernel
theorem dX10_init_68 : decode cX10_init 68 = .ok (.iconst 5, 1) := by decide +kernel
theorem dX10_init_69 : decode cX10_init 69 = .ok (.newarray .int, 2) := by decide +kernel
theorem dX10_init_71 : decode cX10_init 71 = .ok (.putfield 34, 3) := by decide +kernel
theorem dX10_init_74 : decode cX10_init 74 = .ok (.aload_n 0, 1) := by decide +kernel
theorem dX10_init_75 : decode cX10_init 75 = .ok (.iconst 5, 1) := by decide +kernel
theorem dX10_init_76 : decode cX10_init 76 = .ok (.newarray .int, 2) := by decide +kernel
theorem dX10_init_78 : decode cX10_init 78 = .ok (.putfield 37, 3) := by decide +kernel
theorem dX10_init_81 : decode cX10_init 81 = .ok (.aload_n 0, 1) := by decide +kernel
theorem dX10_init_82 : decode cX10_init 82 = .ok (.bipush 120, 2) := by decide +kernel
theorem dX10_init_84 : decode cX10_init 84 = .ok (.newarray .int, 2) := by decide +kernel
theorem dX10_init_86 : decode cX10_init 86 = .ok (.putfield 40, 3) := by decide +kernel
theorem dX10_init_89 : decode cX10_init 89 = .ok (.aload_n 0, 1) := by decide +kernel
theorem dX10_init_90 : decode cX10_init 90 = .ok (.bipush 96, 2) := by decide +kernel
theorem dX10_init_92 : decode cX10_init 92 = .ok (.newarray .int, 2) := by decide +kernel
theorem dX10_init_94 : decode cX10_init 94 = .ok (.putfield 43, 3) := by decide +kernel
theorem dX10_init_97 : decode cX10_init 97 = .ok (.aload_n 0, 1) := by decide +kernel
theorem dX10_init_98 : decode cX10_init 98 = .ok (.sipush 128, 3) := by decide +kernel
theorem dX10_init_101 : decode cX10_init 101 = .ok (.newarray .int, 2) := by decide +kernel
theorem dX10_init_103 : decode cX10_init 103 = .ok (.putfield 46, 3) := by decide +kernel
theorem dX10_init_106 : decode cX10_init 106 = .ok (.aload_n 0, 1) := by decide +kernel
theorem dX10_init_107 : decode cX10_init 107 = .ok (.bipush 100, 2) := by decide +kernel
theorem dX10_init_109 : decode cX10_init 109 = .ok (.newarray .int, 2) := by decide +kernel
theorem dX10_init_111 : decode cX10_init 111 = .ok (.putfield 49, 3) := by decide +kernel
theorem dX10_init_114 : decode cX10_init 114 = .ok (.aload_n 0, 1) := by decide +kernel
theorem dX10_init_115 : decode cX10_init 115 = .ok (.bipush 48, 2) := by decide +kernel
theorem dX10_init_117 : decode cX10_init 117 = .ok (.newarray .int, 2) := by decide +kernel
theorem dX10_init_119 : decode cX10_init 119 = .ok (.putfield 52, 3) := by decide +kernel
theorem dX10_init_122 : decode cX10_init 122 = .ok (.aload_n 0, 1) := by decide +kernel
theorem dX10_init_123 : decode cX10_init 123 = .ok (.bipush 6, 2) := by decide +kernel
theorem dX10_init_125 : decode cX10_init 125 = .ok (.newarray .int, 2) := by decide +kernel
theorem dX10_init_127 : decode cX10_init 127 = .ok (.putfield 55, 3) := by decide +kernel
theorem dX10_init_130 : decode cX10_init 130 = .ok (.aload_n 0, 1) := by decide +kernel
theorem dX10_init_131 : decode cX10_init 131 = .ok (.bipush 6, 2) := by decide +kernel
theorem dX10_init_133 : decode cX10_init 133 = .ok (.newarray .int, 2) := by decide +kernel
theorem dX10_init_135 : decode cX10_init 135 = .ok (.putfield 58, 3) := by decide +kernel
theorem dX10_init_138 : decode cX10_init 138 = .ok (.aload_n 0, 1) := by decide +kernel
theorem dX10_init_139 : decode cX10_init 139 = .ok (.bipush 6, 2) := by decide +kernel
theorem dX10_init_141 : decode cX10_init 141 = .ok (.newarray .int, 2) := by decide +kernel
theorem dX10_init_143 : decode cX10_init 143 = .ok (.putfield 61, 3) := by decide +kernel
theorem dX10_init_146 : decode cX10_init 146 = .ok (.aload_n 0, 1) := by decide +kernel
theorem dX10_init_147 : decode cX10_init 147 = .ok (.bipush 24, 2) := by decide +kernel
theorem dX10_init_149 : decode cX10_init 149 = .ok (.newarray .int, 2) := by decide +kernel
theorem dX10_init_151 : decode cX10_init 151 = .ok (.putfield 64, 3) := by decide +kernel
theorem dX10_init_154 : decode cX10_init 154 = .ok (.aload_n 0, 1) := by decide +kernel
theorem dX10_init_155 : decode cX10_init 155 = .ok (.bipush 60, 2) := by decide +kernel
theorem dX10_init_157 : decode cX10_init 157 = .ok (.newarray .int, 2) := by decide +kernel
theorem dX10_init_159 : decode cX10_init 159 = .ok (.putfield 67, 3) := by decide +kernel
theorem dX10_init_162 : decode cX10_init 162 = .ok (.aload_n 0, 1) := by decide +kernel
theorem dX10_init_163 : decode cX10_init 163 = .ok (.bipush 12, 2) := by decide +kernel
theorem dX10_init_165 : decode cX10_init 165 = .ok (.newarray .int, 2) := by decide +kernel
theorem dX10_init_167 : decode cX10_init 167 = .ok (.putfield 70, 3) := by decide +kernel
theorem dX10_init_170 : decode cX10_init 170 = .ok (.aload_n 0, 1) := by decide +kernel
theorem dX10_init_171 : decode cX10_init 171 = .ok (.getfield 7, 3) := by decide +kernel
theorem dX10_init_174 : decode cX10_init 174 = .ok (.bipush 7, 2) := by decide +kernel
theorem dX10_init_176 : decode cX10_init 176 = .ok (.iconst 1, 1) := by decide +kernel
theorem dX10_init_177 : decode cX10_init 177 = .ok (.iastore, 1) := by decide +kernel
theorem dX10_init_178 : decode cX10_init 178 = .ok (.aload_n 0, 1) := by decide +kernel
theorem dX10_init_179 : decode cX10_init 179 = .ok (.getfield 7, 3) := by decide +kernel
theorem dX10_init_182 : decode cX10_init 182 = .ok (.bipush 8, 2) := by decide +kernel
theorem dX10_init_184 : decode cX10_init 184 = .ok (.sipush 7700, 3) := by decide +kernel
theorem dX10_init_187 : decode cX10_init 187 = .ok (.iastore, 1) := by decide +kernel
theorem dX10_init_188 : decode cX10_init 188 = .ok (.iconst 0, 1) := by decide +kernel
theorem dX10_init_189 : decode cX10_init 189 = .ok (.istore_n 1, 1) := by decide +kernel
theorem dX10_init_190 : decode cX10_init 190 = .ok (.iload_n 1, 1) := by decide +kernel
theorem dX10_init_191 : decode cX10_init 191 = .ok (.iconst 4, 1) := by decide +kernel
theorem dX10_init_192 : decode cX10_init 192 = .ok (.if_icmp .ge 16, 3) := by decide +kernel
theorem dX10_init_195 : decode cX10_init 195 = .ok (.aload_n 0, 1) := by decide +kernel
theorem dX10_init_196 : decode cX10_init 196 = .ok (.getfield 19, 3) := by decide +kernel
theorem dX10_init_199 : decode cX10_init 199 = .ok (.iload_n 1, 1) := by decide +kernel
theorem dX10_init_200 : decode cX10_init 200 = .ok (.iconst (-1), 1) := by decide +kernel
theorem dX10_init_201 : decode cX10_init 201 = .ok (.iastore, 1) := by decide +kernel
theorem dX10_init_202 : decode cX10_init 202 = .ok (.iinc 1 1, 3) := by decide +kernel
theorem dX10_init_205 : decode cX10_init 205 = .ok (.goto (-15), 3) := by decide +kernel
theorem dX10_init_208 : decode cX10_init 208 = .ok (.return_, 1) := by decide +kernel
theorem dX10_isIn_0 : decode cX10_isIn 0 = .ok (.lload_n 0, 1) := by decide +kernel
theorem dX10_isIn_1 : decode cX10_isIn 1 = .ok (.lload_n 2, 1) := by decide +kernel
theorem dX10_isIn_2 : decode cX10_isIn 2 = .ok (.lcmp, 1) := by decide +kernel
theorem dX10_isIn_3 : decode cX10_isIn 3 = .ok (.ifCond .lt 14, 3) := by decide +kernel
theorem dX10_isIn_6 : decode cX10_isIn 6 = .ok (.lload_n 0, 1) := by decide +kernel
theorem dX10_isIn_7 : decode cX10_isIn 7 = .ok (.lload 4, 2) := by decide +kernel
theorem dX10_isIn_9 : decode cX10_isIn 9 = .ok (.lcmp, 1) := by decide +kernel
theorem dX10_isIn_10 : decode cX10_isIn 10 = .ok (.ifCond .gt 7, 3) := by decide +kernel
theorem dX10_isIn_13 : decode cX10_isIn 13 = .ok (.iconst 1, 1) := by decide +kernel
theorem dX10_isIn_14 : decode cX10_isIn 14 = .ok (.goto 4, 3) := by decide +kernel
theorem dX10_isIn_17 : decode cX10_isIn 17 = .ok (.iconst 0, 1) := by decide +kernel
theorem dX10_isIn_18 : decode cX10_isIn 18 = .ok (.ireturn, 1) := by decide +kernel
theorem dX10_orNone_0 : decode cX10_orNone 0 = .ok (.iload_n 0, 1) := by decide +kernel
theorem dX10_orNone_1 : decode cX10_orNone 1 = .ok (.ifCond .ge 8, 3) := by decide +kernel
theorem dX10_orNone_4 : decode cX10_orNone 4 = .ok (.ldc 73, 2) := by decide +kernel
theorem dX10_orNone_6 : decode cX10_orNone 6 = .ok (.goto 4, 3) := by decide +kernel
theorem dX10_orNone_9 : decode cX10_orNone 9 = .ok (.iload_n 0, 1) := by decide +kernel
theorem dX10_orNone_10 : decode cX10_orNone 10 = .ok (.ireturn, 1) := by decide +kernel
theorem dX10_least_0 : decode cX10_least 0 = .ok (.iload_n 0, 1) := by decide +kernel
theorem dX10_least_1 : decode cX10_least 1 = .ok (.iload_n 1, 1) := by decide +kernel
theorem dX10_least_2 : decode cX10_least 2 = .ok (.if_icmp .ge 7, 3) := by decide +kernel
theorem dX10_least_5 : decode cX10_least 5 = .ok (.iload_n 0, 1) := by decide +kernel
theorem dX10_least_6 : decode cX10_least 6 = .ok (.goto 4, 3) := by decide +kernel
theorem dX10_least_9 : decode cX10_least 9 = .ok (.iload_n 1, 1) := by decide +kernel
theorem dX10_least_10 : decode cX10_least 10 = .ok (.ireturn, 1) := by decide +kernel
theorem dX10_heldIn_0 : decode cX10_heldIn 0 = .ok (.iload_n 0, 1) := by decide +kernel
theorem dX10_heldIn_1 : decode cX10_heldIn 1 = .ok (.ifCond .ge 7, 3) := by decide +kernel
theorem dX10_heldIn_4 : decode cX10_heldIn 4 = .ok (.iconst 0, 1) := by decide +kernel
theorem dX10_heldIn_5 : decode cX10_heldIn 5 = .ok (.goto 13, 3) := by decide +kernel
theorem dX10_heldIn_8 : decode cX10_heldIn 8 = .ok (.iload_n 0, 1) := by decide +kernel
theorem dX10_heldIn_9 : decode cX10_heldIn 9 = .ok (.iload_n 1, 1) := by decide +kernel
theorem dX10_heldIn_10 : decode cX10_heldIn 10 = .ok (.if_icmp .le 7, 3) := by decide +kernel
theorem dX10_heldIn_13 : decode cX10_heldIn 13 = .ok (.iload_n 1, 1) := by decide +kernel
theorem dX10_heldIn_14 : decode cX10_heldIn 14 = .ok (.goto 4, 3) := by decide +kernel
theorem dX10_heldIn_17 : decode cX10_heldIn 17 = .ok (.iload_n 0, 1) := by decide +kernel
theorem dX10_heldIn_18 : decode cX10_heldIn 18 = .ok (.ireturn, 1) := by decide +kernel
theorem dX10_becomes_0 : decode cX10_becomes 0 = .ok (.aload_n 0, 1) := by decide +kernel
theorem dX10_becomes_1 : decode cX10_becomes 1 = .ok (.getfield 7, 3) := by decide +kernel
theorem dX10_becomes_4 : decode cX10_becomes 4 = .ok (.iload_n 1, 1) := by decide +kernel
theorem dX10_becomes_5 : decode cX10_becomes 5 = .ok (.iaload, 1) := by decide +kernel
theorem dX10_becomes_6 : decode cX10_becomes 6 = .ok (.istore_n 3, 1) := by decide +kernel
theorem dX10_becomes_7 : decode cX10_becomes 7 = .ok (.aload_n 0, 1) := by decide +kernel
theorem dX10_becomes_8 : decode cX10_becomes 8 = .ok (.getfield 7, 3) := by decide +kernel
theorem dX10_becomes_11 : decode cX10_becomes 11 = .ok (.iload_n 1, 1) := by decide +kernel
theorem dX10_becomes_12 : decode cX10_becomes 12 = .ok (.iload_n 2, 1) := by decide +kernel
theorem dX10_becomes_13 : decode cX10_becomes 13 = .ok (.iastore, 1) := by decide +kernel
theorem dX10_becomes_14 : decode cX10_becomes 14 = .ok (.iload_n 3, 1) := by decide +kernel
theorem dX10_becomes_15 : decode cX10_becomes 15 = .ok (.ireturn, 1) := by decide +kernel
theorem dX10_figureAt_0 : decode cX10_figureAt 0 = .ok (.bipush 30, 2) := by decide +kernel
theorem dX10_figureAt_2 : decode cX10_figureAt 2 = .ok (.bipush 6, 2) := by decide +kernel
theorem dX10_figureAt_4 : decode cX10_figureAt 4 = .ok (.iload_n 1, 1) := by decide +kernel
theorem dX10_figureAt_5 : decode cX10_figureAt 5 = .ok (.imul, 1) := by decide +kernel
theorem dX10_figureAt_6 : decode cX10_figureAt 6 = .ok (.iadd, 1) := by decide +kernel
theorem dX10_figureAt_7 : decode cX10_figureAt 7 = .ok (.ireturn, 1) := by decide +kernel
theorem dX10_lineAt_0 : decode cX10_lineAt 0 = .ok (.sipush 270, 3) := by decide +kernel
theorem dX10_lineAt_3 : decode cX10_lineAt 3 = .ok (.bipush 13, 2) := by decide +kernel
theorem dX10_lineAt_5 : decode cX10_lineAt 5 = .ok (.iload_n 1, 1) := by decide +kernel
theorem dX10_lineAt_6 : decode cX10_lineAt 6 = .ok (.imul, 1) := by decide +kernel
theorem dX10_lineAt_7 : decode cX10_lineAt 7 = .ok (.iadd, 1) := by decide +kernel
theorem dX10_lineAt_8 : decode cX10_lineAt 8 = .ok (.ireturn, 1) := by decide +kernel
theorem dX10_textAt_0 : decode cX10_textAt 0 = .ok (.sipush 500, 3) := by decide +kernel
theorem dX10_textAt_3 : decode cX10_textAt 3 = .ok (.sipush 200, 3) := by decide +kernel
theorem dX10_textAt_6 : decode cX10_textAt 6 = .ok (.iload_n 1, 1) := by decide +kernel
theorem dX10_textAt_7 : decode cX10_textAt 7 = .ok (.imul, 1) := by decide +kernel
theorem dX10_textAt_8 : decode cX10_textAt 8 = .ok (.iadd, 1) := by decide +kernel
theorem dX10_textAt_9 : decode cX10_textAt 9 = .ok (.ireturn, 1) := by decide +kernel
theorem dX10_isTable_0 : decode cX10_isTable 0 = .ok (.iload_n 1, 1) := by decide +kernel
theorem dX10_isTable_1 : decode cX10_isTable 1 = .ok (.i2l, 1) := by decide +kernel
theorem dX10_isTable_2 : decode cX10_isTable 2 = .ok (.lconst 0, 1) := by decide +kernel
theorem dX10_isTable_3 : decode cX10_isTable 3 = .ok (.aload_n 0, 1) := by decide +kernel
theorem dX10_isTable_4 : decode cX10_isTable 4 = .ok (.getfield 7, 3) := by decide +kernel
theorem dX10_isTable_7 : decode cX10_isTable 7 = .ok (.iconst 0, 1) := by decide +kernel
theorem dX10_isTable_8 : decode cX10_isTable 8 = .ok (.iaload, 1) := by decide +kernel
theorem dX10_isTable_9 : decode cX10_isTable 9 = .ok (.iconst 1, 1) := by decide +kernel
theorem dX10_isTable_10 : decode cX10_isTable 10 = .ok (.isub, 1) := by decide +kernel
theorem dX10_isTable_11 : decode cX10_isTable 11 = .ok (.i2l, 1) := by decide +kernel
theorem dX10_isTable_12 : decode cX10_isTable 12 = .ok (.invokestatic 74, 3) := by decide +kernel
theorem dX10_isTable_15 : decode cX10_isTable 15 = .ok (.ireturn, 1) := by decide +kernel
theorem dX10_isFigure_0 : decode cX10_isFigure 0 = .ok (.iload_n 1, 1) := by decide +kernel
theorem dX10_isFigure_1 : decode cX10_isFigure 1 = .ok (.i2l, 1) := by decide +kernel
theorem dX10_isFigure_2 : decode cX10_isFigure 2 = .ok (.lconst 0, 1) := by decide +kernel
theorem dX10_isFigure_3 : decode cX10_isFigure 3 = .ok (.aload_n 0, 1) := by decide +kernel
theorem dX10_isFigure_4 : decode cX10_isFigure 4 = .ok (.getfield 7, 3) := by decide +kernel
theorem dX10_isFigure_7 : decode cX10_isFigure 7 = .ok (.iconst 1, 1) := by decide +kernel
theorem dX10_isFigure_8 : decode cX10_isFigure 8 = .ok (.iaload, 1) := by decide +kernel
theorem dX10_isFigure_9 : decode cX10_isFigure 9 = .ok (.iconst 1, 1) := by decide +kernel
theorem dX10_isFigure_10 : decode cX10_isFigure 10 = .ok (.isub, 1) := by decide +kernel
theorem dX10_isFigure_11 : decode cX10_isFigure 11 = .ok (.i2l, 1) := by decide +kernel
theorem dX10_isFigure_12 : decode cX10_isFigure 12 = .ok (.invokestatic 74, 3) := by decide +kernel
theorem dX10_isFigure_15 : decode cX10_isFigure 15 = .ok (.ireturn, 1) := by decide +kernel
theorem dX10_isText_0 : decode cX10_isText 0 = .ok (.iload_n 1, 1) := by decide +kernel
theorem dX10_isText_1 : decode cX10_isText 1 = .ok (.i2l, 1) := by decide +kernel
theorem dX10_isText_2 : decode cX10_isText 2 = .ok (.lconst 0, 1) := by decide +kernel
theorem dX10_isText_3 : decode cX10_isText 3 = .ok (.aload_n 0, 1) := by decide +kernel
theorem dX10_isText_4 : decode cX10_isText 4 = .ok (.getfield 7, 3) := by decide +kernel
theorem dX10_isText_7 : decode cX10_isText 7 = .ok (.iconst 2, 1) := by decide +kernel
theorem dX10_isText_8 : decode cX10_isText 8 = .ok (.iaload, 1) := by decide +kernel
theorem dX10_isText_9 : decode cX10_isText 9 = .ok (.iconst 1, 1) := by decide +kernel
theorem dX10_isText_10 : decode cX10_isText 10 = .ok (.isub, 1) := by decide +kernel
theorem dX10_isText_11 : decode cX10_isText 11 = .ok (.i2l, 1) := by decide +kernel
theorem dX10_isText_12 : decode cX10_isText 12 = .ok (.invokestatic 74, 3) := by decide +kernel
theorem dX10_isText_15 : decode cX10_isText 15 = .ok (.ireturn, 1) := by decide +kernel
theorem dX10_isPlaces_0 : decode cX10_isPlaces 0 = .ok (.iload_n 0, 1) := by decide +kernel
theorem dX10_isPlaces_1 : decode cX10_isPlaces 1 = .ok (.i2l, 1) := by decide +kernel
theorem dX10_isPlaces_2 : decode cX10_isPlaces 2 = .ok (.lconst 1, 1) := by decide +kernel
theorem dX10_isPlaces_3 : decode cX10_isPlaces 3 = .ok (.ldc2_w 78, 3) := by decide +kernel
theorem dX10_isPlaces_6 : decode cX10_isPlaces 6 = .ok (.invokestatic 74, 3) := by decide +kernel
theorem dX10_isPlaces_9 : decode cX10_isPlaces 9 = .ok (.ireturn, 1) := by decide +kernel
theorem dX10_isPairs_0 : decode cX10_isPairs 0 = .ok (.iload_n 0, 1) := by decide +kernel
theorem dX10_isPairs_1 : decode cX10_isPairs 1 = .ok (.i2l, 1) := by decide +kernel
theorem dX10_isPairs_2 : decode cX10_isPairs 2 = .ok (.lconst 1, 1) := by decide +kernel
theorem dX10_isPairs_3 : decode cX10_isPairs 3 = .ok (.ldc2_w 80, 3) := by decide +kernel
theorem dX10_isPairs_6 : decode cX10_isPairs 6 = .ok (.invokestatic 74, 3) := by decide +kernel
theorem dX10_isPairs_9 : decode cX10_isPairs 9 = .ok (.ireturn, 1) := by decide +kernel
theorem dX10_table_0 : decode cX10_table 0 = .ok (.iload_n 1, 1) := by decide +kernel
theorem dX10_table_1 : decode cX10_table 1 = .ok (.i2l, 1) := by decide +kernel
theorem dX10_table_2 : decode cX10_table 2 = .ok (.lconst 0, 1) := by decide +kernel
theorem dX10_table_3 : decode cX10_table 3 = .ok (.ldc2_w 82, 3) := by decide +kernel
theorem dX10_table_6 : decode cX10_table 6 = .ok (.invokestatic 74, 3) := by decide +kernel
theorem dX10_table_9 : decode cX10_table 9 = .ok (.ifCond .ne 6, 3) := by decide +kernel
theorem dX10_table_12 : decode cX10_table 12 = .ok (.ldc 84, 2) := by decide +kernel
theorem dX10_table_14 : decode cX10_table 14 = .ok (.ireturn, 1) := by decide +kernel
theorem dX10_table_15 : decode cX10_table 15 = .ok (.aload_n 0, 1) := by decide +kernel
theorem dX10_table_16 : decode cX10_table 16 = .ok (.getfield 7, 3) := by decide +kernel
theorem dX10_table_19 : decode cX10_table 19 = .ok (.iconst 0, 1) := by decide +kernel
theorem dX10_table_20 : decode cX10_table 20 = .ok (.iaload, 1) := by decide +kernel
theorem dX10_table_21 : decode cX10_table 21 = .ok (.ifCond .le 26, 3) := by decide +kernel
theorem dX10_table_24 : decode cX10_table 24 = .ok (.iload_n 1, 1) := by decide +kernel
theorem dX10_table_25 : decode cX10_table 25 = .ok (.aload_n 0, 1) := by decide +kernel
theorem dX10_table_26 : decode cX10_table 26 = .ok (.getfield 7, 3) := by decide +kernel
theorem dX10_table_29 : decode cX10_table 29 = .ok (.bipush 10, 2) := by decide +kernel
theorem dX10_table_31 : decode cX10_table 31 = .ok (.aload_n 0, 1) := by decide +kernel
theorem dX10_table_32 : decode cX10_table 32 = .ok (.getfield 7, 3) := by decide +kernel
theorem dX10_table_35 : decode cX10_table 35 = .ok (.iconst 0, 1) := by decide +kernel
theorem dX10_table_36 : decode cX10_table 36 = .ok (.iaload, 1) := by decide +kernel
theorem dX10_table_37 : decode cX10_table 37 = .ok (.iadd, 1) := by decide +kernel
theorem dX10_table_38 : decode cX10_table 38 = .ok (.iconst 1, 1) := by decide +kernel
theorem dX10_table_39 : decode cX10_table 39 = .ok (.isub, 1) := by decide +kernel
theorem dX10_table_40 : decode cX10_table 40 = .ok (.iaload, 1) := by decide +kernel
theorem dX10_table_41 : decode cX10_table 41 = .ok (.if_icmp .ge 6, 3) := by decide +kernel
theorem dX10_table_44 : decode cX10_table 44 = .ok (.ldc 85, 2) := by decide +kernel
theorem dX10_table_46 : decode cX10_table 46 = .ok (.ireturn, 1) := by decide +kernel
theorem dX10_table_47 : decode cX10_table 47 = .ok (.aload_n 0, 1) := by decide +kernel
theorem dX10_table_48 : decode cX10_table 48 = .ok (.getfield 7, 3) := by decide +kernel
theorem dX10_table_51 : decode cX10_table 51 = .ok (.iconst 0, 1) := by decide +kernel
theorem dX10_table_52 : decode cX10_table 52 = .ok (.iaload, 1) := by decide +kernel
theorem dX10_table_53 : decode cX10_table 53 = .ok (.bipush 12, 2) := by decide +kernel
theorem dX10_table_55 : decode cX10_table 55 = .ok (.if_icmp .ne 6, 3) := by decide +kernel
theorem dX10_table_58 : decode cX10_table 58 = .ok (.ldc 86, 2) := by decide +kernel
theorem dX10_table_60 : decode cX10_table 60 = .ok (.ireturn, 1) := by decide +kernel
theorem dX10_table_61 : decode cX10_table 61 = .ok (.aload_n 0, 1) := by decide +kernel
theorem dX10_table_62 : decode cX10_table 62 = .ok (.getfield 7, 3) := by decide +kernel
theorem dX10_table_65 : decode cX10_table 65 = .ok (.bipush 10, 2) := by decide +kernel
theorem dX10_table_67 : decode cX10_table 67 = .ok (.aload_n 0, 1) := by decide +kernel
theorem dX10_table_68 : decode cX10_table 68 = .ok (.getfield 7, 3) := by decide +kernel
theorem dX10_table_71 : decode cX10_table 71 = .ok (.iconst 0, 1) := by decide +kernel
theorem dX10_table_72 : decode cX10_table 72 = .ok (.iaload, 1) := by decide +kernel
theorem dX10_table_73 : decode cX10_table 73 = .ok (.iadd, 1) := by decide +kernel
theorem dX10_table_74 : decode cX10_table 74 = .ok (.iload_n 1, 1) := by decide +kernel
theorem dX10_table_75 : decode cX10_table 75 = .ok (.iastore, 1) := by decide +kernel
theorem dX10_table_76 : decode cX10_table 76 = .ok (.aload_n 0, 1) := by decide +kernel
theorem dX10_table_77 : decode cX10_table 77 = .ok (.getfield 7, 3) := by decide +kernel
theorem dX10_table_80 : decode cX10_table 80 = .ok (.iconst 0, 1) := by decide +kernel
theorem dX10_table_81 : decode cX10_table 81 = .ok (.dup2, 1) := by decide +kernel
theorem dX10_table_82 : decode cX10_table 82 = .ok (.iaload, 1) := by decide +kernel
theorem dX10_table_83 : decode cX10_table 83 = .ok (.iconst 1, 1) := by decide +kernel
theorem dX10_table_84 : decode cX10_table 84 = .ok (.iadd, 1) := by decide +kernel
theorem dX10_table_85 : decode cX10_table 85 = .ok (.iastore, 1) := by decide +kernel
theorem dX10_table_86 : decode cX10_table 86 = .ok (.aload_n 0, 1) := by decide +kernel
theorem dX10_table_87 : decode cX10_table 87 = .ok (.getfield 7, 3) := by decide +kernel
theorem dX10_table_90 : decode cX10_table 90 = .ok (.iconst 0, 1) := by decide +kernel
theorem dX10_table_91 : decode cX10_table 91 = .ok (.iaload, 1) := by decide +kernel
theorem dX10_table_92 : decode cX10_table 92 = .ok (.iconst 1, 1) := by decide +kernel
theorem dX10_table_93 : decode cX10_table 93 = .ok (.isub, 1) := by decide +kernel
theorem dX10_table_94 : decode cX10_table 94 = .ok (.ireturn, 1) := by decide +kernel
theorem dX10_newFigure_0 : decode cX10_newFigure 0 = .ok (.aload_n 0, 1) := by decide +kernel
theorem dX10_newFigure_1 : decode cX10_newFigure 1 = .ok (.aload_n 0, 1) := by decide +kernel
theorem dX10_newFigure_2 : decode cX10_newFigure 2 = .ok (.getfield 7, 3) := by decide +kernel
theorem dX10_newFigure_5 : decode cX10_newFigure 5 = .ok (.iconst 1, 1) := by decide +kernel
theorem dX10_newFigure_6 : decode cX10_newFigure 6 = .ok (.iaload, 1) := by decide +kernel
theorem dX10_newFigure_7 : decode cX10_newFigure 7 = .ok (.invokevirtual 87, 3) := by decide +kernel
theorem dX10_newFigure_10 : decode cX10_newFigure 10 = .ok (.istore 6, 2) := by decide +kernel
theorem dX10_newFigure_12 : decode cX10_newFigure 12 = .ok (.aload_n 0, 1) := by decide +kernel
theorem dX10_newFigure_13 : decode cX10_newFigure 13 = .ok (.getfield 7, 3) := by decide +kernel
theorem dX10_newFigure_16 : decode cX10_newFigure 16 = .ok (.iload 6, 2) := by decide +kernel
theorem dX10_newFigure_18 : decode cX10_newFigure 18 = .ok (.iload_n 1, 1) := by decide +kernel
theorem dX10_newFigure_19 : decode cX10_newFigure 19 = .ok (.iastore, 1) := by decide +kernel
theorem dX10_newFigure_20 : decode cX10_newFigure 20 = .ok (.aload_n 0, 1) := by decide +kernel
theorem dX10_newFigure_21 : decode cX10_newFigure 21 = .ok (.getfield 7, 3) := by decide +kernel
theorem dX10_newFigure_24 : decode cX10_newFigure 24 = .ok (.iload 6, 2) := by decide +kernel
theorem dX10_newFigure_26 : decode cX10_newFigure 26 = .ok (.iconst 1, 1) := by decide +kernel
theorem dX10_newFigure_27 : decode cX10_newFigure 27 = .ok (.iadd, 1) := by decide +kernel
theorem dX10_newFigure_28 : decode cX10_newFigure 28 = .ok (.iload_n 2, 1) := by decide +kernel
theorem dX10_newFigure_29 : decode cX10_newFigure 29 = .ok (.iastore, 1) := by decide +kernel
theorem dX10_newFigure_30 : decode cX10_newFigure 30 = .ok (.aload_n 0, 1) := by decide +kernel
theorem dX10_newFigure_31 : decode cX10_newFigure 31 = .ok (.getfield 7, 3) := by decide +kernel
theorem dX10_newFigure_34 : decode cX10_newFigure 34 = .ok (.iload 6, 2) := by decide +kernel
theorem dX10_newFigure_36 : decode cX10_newFigure 36 = .ok (.iconst 2, 1) := by decide +kernel
theorem dX10_newFigure_37 : decode cX10_newFigure 37 = .ok (.iadd, 1) := by decide +kernel
theorem dX10_newFigure_38 : decode cX10_newFigure 38 = .ok (.iload_n 3, 1) := by decide +kernel
theorem dX10_newFigure_39 : decode cX10_newFigure 39 = .ok (.iastore, 1) := by decide +kernel
theorem dX10_newFigure_40 : decode cX10_newFigure 40 = .ok (.aload_n 0, 1) := by decide +kernel
theorem dX10_newFigure_41 : decode cX10_newFigure 41 = .ok (.getfield 7, 3) := by decide +kernel
theorem dX10_newFigure_44 : decode cX10_newFigure 44 = .ok (.iload 6, 2) := by decide +kernel
theorem dX10_newFigure_46 : decode cX10_newFigure 46 = .ok (.iconst 3, 1) := by decide +kernel
theorem dX10_newFigure_47 : decode cX10_newFigure 47 = .ok (.iadd, 1) := by decide +kernel
theorem dX10_newFigure_48 : decode cX10_newFigure 48 = .ok (.iload 4, 2) := by decide +kernel
theorem dX10_newFigure_50 : decode cX10_newFigure 50 = .ok (.iastore, 1) := by decide +kernel
theorem dX10_newFigure_51 : decode cX10_newFigure 51 = .ok (.aload_n 0, 1) := by decide +kernel
theorem dX10_newFigure_52 : decode cX10_newFigure 52 = .ok (.getfield 7, 3) := by decide +kernel
theorem dX10_newFigure_55 : decode cX10_newFigure 55 = .ok (.iload 6, 2) := by decide +kernel
theorem dX10_newFigure_57 : decode cX10_newFigure 57 = .ok (.iconst 4, 1) := by decide +kernel
theorem dX10_newFigure_58 : decode cX10_newFigure 58 = .ok (.iadd, 1) := by decide +kernel
theorem dX10_newFigure_59 : decode cX10_newFigure 59 = .ok (.iload 5, 2) := by decide +kernel
theorem dX10_newFigure_61 : decode cX10_newFigure 61 = .ok (.iastore, 1) := by decide +kernel
theorem dX10_newFigure_62 : decode cX10_newFigure 62 = .ok (.aload_n 0, 1) := by decide +kernel
theorem dX10_newFigure_63 : decode cX10_newFigure 63 = .ok (.getfield 7, 3) := by decide +kernel
theorem dX10_newFigure_66 : decode cX10_newFigure 66 = .ok (.iload 6, 2) := by decide +kernel
theorem dX10_newFigure_68 : decode cX10_newFigure 68 = .ok (.iconst 5, 1) := by decide +kernel
theorem dX10_newFigure_69 : decode cX10_newFigure 69 = .ok (.iadd, 1) := by decide +kernel
theorem dX10_newFigure_70 : decode cX10_newFigure 70 = .ok (.iconst (-1), 1) := by decide +kernel
theorem dX10_newFigure_71 : decode cX10_newFigure 71 = .ok (.iastore, 1) := by decide +kernel
theorem dX10_newFigure_72 : decode cX10_newFigure 72 = .ok (.aload_n 0, 1) := by decide +kernel
theorem dX10_newFigure_73 : decode cX10_newFigure 73 = .ok (.getfield 7, 3) := by decide +kernel
theorem dX10_newFigure_76 : decode cX10_newFigure 76 = .ok (.iconst 1, 1) := by decide +kernel
theorem dX10_newFigure_77 : decode cX10_newFigure 77 = .ok (.dup2, 1) := by decide +kernel
theorem dX10_newFigure_78 : decode cX10_newFigure 78 = .ok (.iaload, 1) := by decide +kernel
theorem dX10_newFigure_79 : decode cX10_newFigure 79 = .ok (.iconst 1, 1) := by decide +kernel
theorem dX10_newFigure_80 : decode cX10_newFigure 80 = .ok (.iadd, 1) := by decide +kernel
theorem dX10_newFigure_81 : decode cX10_newFigure 81 = .ok (.iastore, 1) := by decide +kernel
theorem dX10_newFigure_82 : decode cX10_newFigure 82 = .ok (.aload_n 0, 1) := by decide +kernel
theorem dX10_newFigure_83 : decode cX10_newFigure 83 = .ok (.getfield 7, 3) := by decide +kernel
theorem dX10_newFigure_86 : decode cX10_newFigure 86 = .ok (.iconst 1, 1) := by decide +kernel
theorem dX10_newFigure_87 : decode cX10_newFigure 87 = .ok (.iaload, 1) := by decide +kernel
theorem dX10_newFigure_88 : decode cX10_newFigure 88 = .ok (.iconst 1, 1) := by decide +kernel
theorem dX10_newFigure_89 : decode cX10_newFigure 89 = .ok (.isub, 1) := by decide +kernel
theorem dX10_newFigure_90 : decode cX10_newFigure 90 = .ok (.ireturn, 1) := by decide +kernel
theorem dX10_figure_0 : decode cX10_figure 0 = .ok (.aload_n 0, 1) := by decide +kernel
theorem dX10_figure_1 : decode cX10_figure 1 = .ok (.iload_n 1, 1) := by decide +kernel
theorem dX10_figure_2 : decode cX10_figure 2 = .ok (.invokevirtual 91, 3) := by decide +kernel
theorem dX10_figure_5 : decode cX10_figure 5 = .ok (.ifCond .eq 35, 3) := by decide +kernel
theorem dX10_figure_8 : decode cX10_figure 8 = .ok (.iload_n 2, 1) := by decide +kernel
theorem dX10_figure_9 : decode cX10_figure 9 = .ok (.i2l, 1) := by decide +kernel
theorem dX10_figure_10 : decode cX10_figure 10 = .ok (.lconst 0, 1) := by decide +kernel
theorem dX10_figure_11 : decode cX10_figure 11 = .ok (.ldc2_w 95, 3) := by decide +kernel
theorem dX10_figure_14 : decode cX10_figure 14 = .ok (.invokestatic 74, 3) := by decide +kernel
theorem dX10_figure_17 : decode cX10_figure 17 = .ok (.ifCond .eq 23, 3) := by decide +kernel
theorem dX10_figure_20 : decode cX10_figure 20 = .ok (.iload_n 3, 1) := by decide +kernel
theorem dX10_figure_21 : decode cX10_figure 21 = .ok (.i2l, 1) := by decide +kernel
theorem dX10_figure_22 : decode cX10_figure 22 = .ok (.lconst 0, 1) := by decide +kernel
theorem dX10_figure_23 : decode cX10_figure 23 = .ok (.ldc2_w 97, 3) := by decide +kernel
theorem dX10_figure_26 : decode cX10_figure 26 = .ok (.invokestatic 74, 3) := by decide +kernel
theorem dX10_figure_29 : decode cX10_figure 29 = .ok (.ifCond .eq 11, 3) := by decide +kernel
theorem dX10_figure_32 : decode cX10_figure 32 = .ok (.iload 4, 2) := by decide +kernel
theorem dX10_figure_34 : decode cX10_figure 34 = .ok (.invokestatic 99, 3) := by decide +kernel
theorem dX10_figure_37 : decode cX10_figure 37 = .ok (.ifCond .ne 6, 3) := by decide +kernel
theorem dX10_figure_40 : decode cX10_figure 40 = .ok (.ldc 84, 2) := by decide +kernel
theorem dX10_figure_42 : decode cX10_figure 42 = .ok (.ireturn, 1) := by decide +kernel
theorem dX10_figure_43 : decode cX10_figure 43 = .ok (.iload 5, 2) := by decide +kernel
theorem dX10_figure_45 : decode cX10_figure 45 = .ok (.iconst (-1), 1) := by decide +kernel
theorem dX10_figure_46 : decode cX10_figure 46 = .ok (.if_icmp .eq 30, 3) := by decide +kernel
theorem dX10_figure_49 : decode cX10_figure 49 = .ok (.aload_n 0, 1) := by decide +kernel
theorem dX10_figure_50 : decode cX10_figure 50 = .ok (.iload 5, 2) := by decide +kernel
theorem dX10_figure_52 : decode cX10_figure 52 = .ok (.invokevirtual 102, 3) := by decide +kernel
theorem dX10_figure_55 : decode cX10_figure 55 = .ok (.ifCond .eq 18, 3) := by decide +kernel
theorem dX10_figure_58 : decode cX10_figure 58 = .ok (.aload_n 0, 1) := by decide +kernel
theorem dX10_figure_59 : decode cX10_figure 59 = .ok (.getfield 7, 3) := by decide +kernel
theorem dX10_figure_62 : decode cX10_figure 62 = .ok (.aload_n 0, 1) := by decide +kernel
theorem dX10_figure_63 : decode cX10_figure 63 = .ok (.iload 5, 2) := by decide +kernel
theorem dX10_figure_65 : decode cX10_figure 65 = .ok (.invokevirtual 87, 3) := by decide +kernel
theorem dX10_figure_68 : decode cX10_figure 68 = .ok (.iaload, 1) := by decide +kernel
theorem dX10_figure_69 : decode cX10_figure 69 = .ok (.iload_n 1, 1) := by decide +kernel
theorem dX10_figure_70 : decode cX10_figure 70 = .ok (.if_icmp .le 6, 3) := by decide +kernel
theorem dX10_figure_73 : decode cX10_figure 73 = .ok (.ldc 84, 2) := by decide +kernel
theorem dX10_figure_75 : decode cX10_figure 75 = .ok (.ireturn, 1) := by decide +kernel
theorem dX10_figure_76 : decode cX10_figure 76 = .ok (.aload_n 0, 1) := by decide +kernel
theorem dX10_figure_77 : decode cX10_figure 77 = .ok (.getfield 7, 3) := by decide +kernel
theorem dX10_figure_80 : decode cX10_figure 80 = .ok (.iconst 1, 1) := by decide +kernel
theorem dX10_figure_81 : decode cX10_figure 81 = .ok (.iaload, 1) := by decide +kernel
theorem dX10_figure_82 : decode cX10_figure 82 = .ok (.bipush 40, 2) := by decide +kernel
theorem dX10_figure_84 : decode cX10_figure 84 = .ok (.if_icmp .ne 8, 3) := by decide +kernel
theorem dX10_figure_87 : decode cX10_figure 87 = .ok (.ldc 86, 2) := by decide +kernel
theorem dX10_figure_89 : decode cX10_figure 89 = .ok (.goto 14, 3) := by decide +kernel
theorem dX10_figure_92 : decode cX10_figure 92 = .ok (.aload_n 0, 1) := by decide +kernel
theorem dX10_figure_93 : decode cX10_figure 93 = .ok (.iload_n 1, 1) := by decide +kernel
theorem dX10_figure_94 : decode cX10_figure 94 = .ok (.iload_n 2, 1) := by decide +kernel
theorem dX10_figure_95 : decode cX10_figure 95 = .ok (.iload_n 3, 1) := by decide +kernel
theorem dX10_figure_96 : decode cX10_figure 96 = .ok (.iload 4, 2) := by decide +kernel
theorem dX10_figure_98 : decode cX10_figure 98 = .ok (.iload 5, 2) := by decide +kernel
theorem dX10_figure_100 : decode cX10_figure 100 = .ok (.invokevirtual 105, 3) := by decide +kernel
theorem dX10_figure_103 : decode cX10_figure 103 = .ok (.ireturn, 1) := by decide +kernel
theorem dX10_yearOf_0 : decode cX10_yearOf 0 = .ok (.aload_n 0, 1) := by decide +kernel
theorem dX10_yearOf_1 : decode cX10_yearOf 1 = .ok (.getfield 7, 3) := by decide +kernel
theorem dX10_yearOf_4 : decode cX10_yearOf 4 = .ok (.bipush 10, 2) := by decide +kernel
theorem dX10_yearOf_6 : decode cX10_yearOf 6 = .ok (.aload_n 0, 1) := by decide +kernel
theorem dX10_yearOf_7 : decode cX10_yearOf 7 = .ok (.getfield 7, 3) := by decide +kernel
theorem dX10_yearOf_10 : decode cX10_yearOf 10 = .ok (.aload_n 0, 1) := by decide +kernel
theorem dX10_yearOf_11 : decode cX10_yearOf 11 = .ok (.iload_n 1, 1) := by decide +kernel
theorem dX10_yearOf_12 : decode cX10_yearOf 12 = .ok (.invokevirtual 87, 3) := by decide +kernel
theorem dX10_yearOf_15 : decode cX10_yearOf 15 = .ok (.iaload, 1) := by decide +kernel
theorem dX10_yearOf_16 : decode cX10_yearOf 16 = .ok (.iadd, 1) := by decide +kernel
theorem dX10_yearOf_17 : decode cX10_yearOf 17 = .ok (.iaload, 1) := by decide +kernel
theorem dX10_yearOf_18 : decode cX10_yearOf 18 = .ok (.ireturn, 1) := by decide +kernel
theorem dX10_counts_0 : decode cX10_counts 0 = .ok (.iconst (-1), 1) := by decide +kernel
theorem dX10_counts_1 : decode cX10_counts 1 = .ok (.istore_n 2, 1) := by decide +kernel
theorem dX10_counts_2 : decode cX10_counts 2 = .ok (.iconst 0, 1) := by decide +kernel
theorem dX10_counts_3 : decode cX10_counts 3 = .ok (.istore_n 3, 1) := by decide +kernel
theorem dX10_counts_4 : decode cX10_counts 4 = .ok (.iload_n 3, 1) := by decide +kernel
theorem dX10_counts_5 : decode cX10_counts 5 = .ok (.aload_n 0, 1) := by decide +kernel
theorem dX10_counts_6 : decode cX10_counts 6 = .ok (.getfield 7, 3) := by decide +kernel
theorem dX10_counts_9 : decode cX10_counts 9 = .ok (.iconst 2, 1) := by decide +kernel
theorem dX10_counts_10 : decode cX10_counts 10 = .ok (.iaload, 1) := by decide +kernel
theorem dX10_counts_11 : decode cX10_counts 11 = .ok (.if_icmp .ge 29, 3) := by decide +kernel
theorem dX10_counts_14 : decode cX10_counts 14 = .ok (.aload_n 0, 1) := by decide +kernel
theorem dX10_counts_15 : decode cX10_counts 15 = .ok (.getfield 7, 3) := by decide +kernel
theorem dX10_counts_18 : decode cX10_counts 18 = .ok (.aload_n 0, 1) := by decide +kernel
theorem dX10_counts_19 : decode cX10_counts 19 = .ok (.iload_n 3, 1) := by decide +kernel
theorem dX10_counts_20 : decode cX10_counts 20 = .ok (.invokevirtual 109, 3) := by decide +kernel
theorem dX10_counts_23 : decode cX10_counts 23 = .ok (.iaload, 1) := by decide +kernel
theorem dX10_counts_24 : decode cX10_counts 24 = .ok (.iload_n 1, 1) := by decide +kernel
theorem dX10_counts_25 : decode cX10_counts 25 = .ok (.if_icmp .ne 7, 3) := by decide +kernel
theorem dX10_counts_28 : decode cX10_counts 28 = .ok (.iload_n 3, 1) := by decide +kernel
theorem dX10_counts_29 : decode cX10_counts 29 = .ok (.goto 4, 3) := by decide +kernel
theorem dX10_counts_32 : decode cX10_counts 32 = .ok (.iload_n 2, 1) := by decide +kernel
theorem dX10_counts_33 : decode cX10_counts 33 = .ok (.istore_n 2, 1) := by decide +kernel
theorem dX10_counts_34 : decode cX10_counts 34 = .ok (.iinc 3 1, 3) := by decide +kernel
theorem dX10_counts_37 : decode cX10_counts 37 = .ok (.goto (-33), 3) := by decide +kernel
theorem dX10_counts_40 : decode cX10_counts 40 = .ok (.iload_n 2, 1) := by decide +kernel
theorem dX10_counts_41 : decode cX10_counts 41 = .ok (.ireturn, 1) := by decide +kernel
theorem dX10_workedOf_0 : decode cX10_workedOf 0 = .ok (.aload_n 0, 1) := by decide +kernel
theorem dX10_workedOf_1 : decode cX10_workedOf 1 = .ok (.iload_n 1, 1) := by decide +kernel
theorem dX10_workedOf_2 : decode cX10_workedOf 2 = .ok (.invokevirtual 87, 3) := by decide +kernel
theorem dX10_workedOf_5 : decode cX10_workedOf 5 = .ok (.istore_n 2, 1) := by decide +kernel
theorem dX10_workedOf_6 : decode cX10_workedOf 6 = .ok (.iconst 0, 1) := by decide +kernel
theorem dX10_workedOf_7 : decode cX10_workedOf 7 = .ok (.istore_n 3, 1) := by decide +kernel
theorem dX10_workedOf_8 : decode cX10_workedOf 8 = .ok (.iconst 0, 1) := by decide +kernel
theorem dX10_workedOf_9 : decode cX10_workedOf 9 = .ok (.istore 4, 2) := by decide +kernel
theorem dX10_workedOf_11 : decode cX10_workedOf 11 = .ok (.iload 4, 2) := by decide +kernel
theorem dX10_workedOf_13 : decode cX10_workedOf 13 = .ok (.iload_n 1, 1) := by decide +kernel
theorem dX10_workedOf_14 : decode cX10_workedOf 14 = .ok (.if_icmp .ge 37, 3) := by decide +kernel
theorem dX10_workedOf_17 : decode cX10_workedOf 17 = .ok (.iload_n 3, 1) := by decide +kernel
theorem dX10_workedOf_18 : decode cX10_workedOf 18 = .ok (.aload_n 0, 1) := by decide +kernel
theorem dX10_workedOf_19 : decode cX10_workedOf 19 = .ok (.getfield 7, 3) := by decide +kernel
theorem dX10_workedOf_22 : decode cX10_workedOf 22 = .ok (.aload_n 0, 1) := by decide +kernel
theorem dX10_workedOf_23 : decode cX10_workedOf 23 = .ok (.iload 4, 2) := by decide +kernel
theorem dX10_workedOf_25 : decode cX10_workedOf 25 = .ok (.invokevirtual 87, 3) := by decide +kernel
theorem dX10_workedOf_28 : decode cX10_workedOf 28 = .ok (.iaload, 1) := by decide +kernel
theorem dX10_workedOf_29 : decode cX10_workedOf 29 = .ok (.aload_n 0, 1) := by decide +kernel
theorem dX10_workedOf_30 : decode cX10_workedOf 30 = .ok (.getfield 7, 3) := by decide +kernel
theorem dX10_workedOf_33 : decode cX10_workedOf 33 = .ok (.iload_n 2, 1) := by decide +kernel
theorem dX10_workedOf_34 : decode cX10_workedOf 34 = .ok (.iaload, 1) := by decide +kernel
theorem dX10_workedOf_35 : decode cX10_workedOf 35 = .ok (.if_icmp .ne 7, 3) := by decide +kernel
theorem dX10_workedOf_38 : decode cX10_workedOf 38 = .ok (.iconst 1, 1) := by decide +kernel
theorem dX10_workedOf_39 : decode cX10_workedOf 39 = .ok (.goto 4, 3) := by decide +kernel
theorem dX10_workedOf_42 : decode cX10_workedOf 42 = .ok (.iconst 0, 1) := by decide +kernel
theorem dX10_workedOf_43 : decode cX10_workedOf 43 = .ok (.iadd, 1) := by decide +kernel
theorem dX10_workedOf_44 : decode cX10_workedOf 44 = .ok (.istore_n 3, 1) := by decide +kernel
theorem dX10_workedOf_45 : decode cX10_workedOf 45 = .ok (.iinc 4 1, 3) := by decide +kernel
theorem dX10_workedOf_48 : decode cX10_workedOf 48 = .ok (.goto (-37), 3) := by decide +kernel
theorem dX10_workedOf_51 : decode cX10_workedOf 51 = .ok (.aload_n 0, 1) := by decide +kernel
theorem dX10_workedOf_52 : decode cX10_workedOf 52 = .ok (.getfield 46, 3) := by decide +kernel
theorem dX10_workedOf_55 : decode cX10_workedOf 55 = .ok (.bipush 110, 2) := by decide +kernel
theorem dX10_workedOf_57 : decode cX10_workedOf 57 = .ok (.aload_n 0, 1) := by decide +kernel
theorem dX10_workedOf_58 : decode cX10_workedOf 58 = .ok (.getfield 7, 3) := by decide +kernel
theorem dX10_workedOf_61 : decode cX10_workedOf 61 = .ok (.iload_n 2, 1) := by decide +kernel
theorem dX10_workedOf_62 : decode cX10_workedOf 62 = .ok (.iconst 3, 1) := by decide +kernel
theorem dX10_workedOf_63 : decode cX10_workedOf 63 = .ok (.iadd, 1) := by decide +kernel
theorem dX10_workedOf_64 : decode cX10_workedOf 64 = .ok (.iaload, 1) := by decide +kernel
theorem dX10_workedOf_65 : decode cX10_workedOf 65 = .ok (.iastore, 1) := by decide +kernel
theorem dX10_workedOf_66 : decode cX10_workedOf 66 = .ok (.aload_n 0, 1) := by decide +kernel
theorem dX10_workedOf_67 : decode cX10_workedOf 67 = .ok (.getfield 46, 3) := by decide +kernel
theorem dX10_workedOf_70 : decode cX10_workedOf 70 = .ok (.bipush 102, 2) := by decide +kernel
theorem dX10_workedOf_72 : decode cX10_workedOf 72 = .ok (.aload_n 0, 1) := by decide +kernel
theorem dX10_workedOf_73 : decode cX10_workedOf 73 = .ok (.getfield 7, 3) := by decide +kernel
theorem dX10_workedOf_76 : decode cX10_workedOf 76 = .ok (.iload_n 2, 1) := by decide +kernel
theorem dX10_workedOf_77 : decode cX10_workedOf 77 = .ok (.iconst 4, 1) := by decide +kernel
theorem dX10_workedOf_78 : decode cX10_workedOf 78 = .ok (.iadd, 1) := by decide +kernel
theorem dX10_workedOf_79 : decode cX10_workedOf 79 = .ok (.iaload, 1) := by decide +kernel
theorem dX10_workedOf_80 : decode cX10_workedOf 80 = .ok (.ifCond .ge 7, 3) := by decide +kernel
theorem dX10_workedOf_83 : decode cX10_workedOf 83 = .ok (.iconst 0, 1) := by decide +kernel
theorem dX10_workedOf_84 : decode cX10_workedOf 84 = .ok (.goto 22, 3) := by decide +kernel
theorem dX10_workedOf_87 : decode cX10_workedOf 87 = .ok (.aload_n 0, 1) := by decide +kernel
theorem dX10_workedOf_88 : decode cX10_workedOf 88 = .ok (.getfield 7, 3) := by decide +kernel
theorem dX10_workedOf_91 : decode cX10_workedOf 91 = .ok (.aload_n 0, 1) := by decide +kernel
theorem dX10_workedOf_92 : decode cX10_workedOf 92 = .ok (.aload_n 0, 1) := by decide +kernel
theorem dX10_workedOf_93 : decode cX10_workedOf 93 = .ok (.getfield 7, 3) := by decide +kernel
theorem dX10_workedOf_96 : decode cX10_workedOf 96 = .ok (.iload_n 2, 1) := by decide +kernel
theorem dX10_workedOf_97 : decode cX10_workedOf 97 = .ok (.iconst 4, 1) := by decide +kernel
theorem dX10_workedOf_98 : decode cX10_workedOf 98 = .ok (.iadd, 1) := by decide +kernel
theorem dX10_workedOf_99 : decode cX10_workedOf 99 = .ok (.iaload, 1) := by decide +kernel
theorem dX10_workedOf_100 : decode cX10_workedOf 100 = .ok (.invokevirtual 87, 3) := by decide +kernel
theorem dX10_workedOf_103 : decode cX10_workedOf 103 = .ok (.iconst 2, 1) := by decide +kernel
theorem dX10_workedOf_104 : decode cX10_workedOf 104 = .ok (.iadd, 1) := by decide +kernel
theorem dX10_workedOf_105 : decode cX10_workedOf 105 = .ok (.iaload, 1) := by decide +kernel
theorem dX10_workedOf_106 : decode cX10_workedOf 106 = .ok (.iastore, 1) := by decide +kernel
theorem dX10_workedOf_107 : decode cX10_workedOf 107 = .ok (.aload_n 0, 1) := by decide +kernel
theorem dX10_workedOf_108 : decode cX10_workedOf 108 = .ok (.getfield 46, 3) := by decide +kernel
theorem dX10_workedOf_111 : decode cX10_workedOf 111 = .ok (.bipush 105, 2) := by decide +kernel
theorem dX10_workedOf_113 : decode cX10_workedOf 113 = .ok (.iload_n 3, 1) := by decide +kernel
theorem dX10_workedOf_114 : decode cX10_workedOf 114 = .ok (.iastore, 1) := by decide +kernel
theorem dX10_workedOf_115 : decode cX10_workedOf 115 = .ok (.aload_n 0, 1) := by decide +kernel
theorem dX10_workedOf_116 : decode cX10_workedOf 116 = .ok (.aload_n 0, 1) := by decide +kernel
theorem dX10_workedOf_117 : decode cX10_workedOf 117 = .ok (.aload_n 0, 1) := by decide +kernel
theorem dX10_workedOf_118 : decode cX10_workedOf 118 = .ok (.getfield 7, 3) := by decide +kernel
theorem dX10_workedOf_121 : decode cX10_workedOf 121 = .ok (.iload_n 2, 1) := by decide +kernel
theorem dX10_workedOf_122 : decode cX10_workedOf 122 = .ok (.iaload, 1) := by decide +kernel
theorem dX10_workedOf_123 : decode cX10_workedOf 123 = .ok (.invokevirtual 112, 3) := by decide +kernel
theorem dX10_workedOf_126 : decode cX10_workedOf 126 = .ok (.invokevirtual 115, 3) := by decide +kernel
theorem dX10_workedOf_129 : decode cX10_workedOf 129 = .ok (.ireturn, 1) := by decide +kernel
theorem dX10_spreadFor_0 : decode cX10_spreadFor 0 = .ok (.aload_n 0, 1) := by decide +kernel
theorem dX10_spreadFor_1 : decode cX10_spreadFor 1 = .ok (.bipush 12, 2) := by decide +kernel
theorem dX10_spreadFor_3 : decode cX10_spreadFor 3 = .ok (.invokevirtual 112, 3) := by decide +kernel
theorem dX10_spreadFor_6 : decode cX10_spreadFor 6 = .ok (.istore_n 3, 1) := by decide +kernel
theorem dX10_spreadFor_7 : decode cX10_spreadFor 7 = .ok (.aload_n 0, 1) := by decide +kernel
theorem dX10_spreadFor_8 : decode cX10_spreadFor 8 = .ok (.getfield 46, 3) := by decide +kernel
theorem dX10_spreadFor_11 : decode cX10_spreadFor 11 = .ok (.bipush 110, 2) := by decide +kernel
theorem dX10_spreadFor_13 : decode cX10_spreadFor 13 = .ok (.iload_n 1, 1) := by decide +kernel
theorem dX10_spreadFor_14 : decode cX10_spreadFor 14 = .ok (.iastore, 1) := by decide +kernel
theorem dX10_spreadFor_15 : decode cX10_spreadFor 15 = .ok (.aload_n 0, 1) := by decide +kernel
theorem dX10_spreadFor_16 : decode cX10_spreadFor 16 = .ok (.getfield 46, 3) := by decide +kernel
theorem dX10_spreadFor_19 : decode cX10_spreadFor 19 = .ok (.bipush 121, 2) := by decide +kernel
theorem dX10_spreadFor_21 : decode cX10_spreadFor 21 = .ok (.iload_n 2, 1) := by decide +kernel
theorem dX10_spreadFor_22 : decode cX10_spreadFor 22 = .ok (.iastore, 1) := by decide +kernel
theorem dX10_spreadFor_23 : decode cX10_spreadFor 23 = .ok (.iload_n 3, 1) := by decide +kernel
theorem dX10_spreadFor_24 : decode cX10_spreadFor 24 = .ok (.ifCond .ge 11, 3) := by decide +kernel
theorem dX10_spreadFor_27 : decode cX10_spreadFor 27 = .ok (.sipush 10000, 3) := by decide +kernel
theorem dX10_spreadFor_30 : decode cX10_spreadFor 30 = .ok (.iload_n 1, 1) := by decide +kernel
theorem dX10_spreadFor_31 : decode cX10_spreadFor 31 = .ok (.idiv, 1) := by decide +kernel
theorem dX10_spreadFor_32 : decode cX10_spreadFor 32 = .ok (.goto 14, 3) := by decide +kernel
theorem dX10_spreadFor_35 : decode cX10_spreadFor 35 = .ok (.aload_n 0, 1) := by decide +kernel
theorem dX10_spreadFor_36 : decode cX10_spreadFor 36 = .ok (.iload_n 3, 1) := by decide +kernel
theorem dX10_spreadFor_37 : decode cX10_spreadFor 37 = .ok (.invokevirtual 115, 3) := by decide +kernel
theorem dX10_spreadFor_40 : decode cX10_spreadFor 40 = .ok (.sipush 9999, 3) := by decide +kernel
theorem dX10_spreadFor_43 : decode cX10_spreadFor 43 = .ok (.invokestatic 118, 3) := by decide +kernel
theorem dX10_spreadFor_46 : decode cX10_spreadFor 46 = .ok (.ireturn, 1) := by decide +kernel
theorem dX10_spreadOf_0 : decode cX10_spreadOf 0 = .ok (.aload_n 0, 1) := by decide +kernel
theorem dX10_spreadOf_1 : decode cX10_spreadOf 1 = .ok (.aload_n 0, 1) := by decide +kernel
theorem dX10_spreadOf_2 : decode cX10_spreadOf 2 = .ok (.getfield 7, 3) := by decide +kernel
theorem dX10_spreadOf_5 : decode cX10_spreadOf 5 = .ok (.aload_n 0, 1) := by decide +kernel
theorem dX10_spreadOf_6 : decode cX10_spreadOf 6 = .ok (.iload_n 1, 1) := by decide +kernel
theorem dX10_spreadOf_7 : decode cX10_spreadOf 7 = .ok (.invokevirtual 87, 3) := by decide +kernel
theorem dX10_spreadOf_10 : decode cX10_spreadOf 10 = .ok (.iconst 3, 1) := by decide +kernel
theorem dX10_spreadOf_11 : decode cX10_spreadOf 11 = .ok (.iadd, 1) := by decide +kernel
theorem dX10_spreadOf_12 : decode cX10_spreadOf 12 = .ok (.iaload, 1) := by decide +kernel
theorem dX10_spreadOf_13 : decode cX10_spreadOf 13 = .ok (.aload_n 0, 1) := by decide +kernel
theorem dX10_spreadOf_14 : decode cX10_spreadOf 14 = .ok (.iload_n 1, 1) := by decide +kernel
theorem dX10_spreadOf_15 : decode cX10_spreadOf 15 = .ok (.invokevirtual 122, 3) := by decide +kernel
theorem dX10_spreadOf_18 : decode cX10_spreadOf 18 = .ok (.invokevirtual 125, 3) := by decide +kernel
theorem dX10_spreadOf_21 : decode cX10_spreadOf 21 = .ok (.ireturn, 1) := by decide +kernel
theorem dX10_unlike_0 : decode cX10_unlike 0 = .ok (.iconst 0, 1) := by decide +kernel
theorem dX10_unlike_1 : decode cX10_unlike 1 = .ok (.istore_n 2, 1) := by decide +kernel
theorem dX10_unlike_2 : decode cX10_unlike 2 = .ok (.iload_n 0, 1) := by decide +kernel
theorem dX10_unlike_3 : decode cX10_unlike 3 = .ok (.istore_n 3, 1) := by decide +kernel
theorem dX10_unlike_4 : decode cX10_unlike 4 = .ok (.iload_n 1, 1) := by decide +kernel
theorem dX10_unlike_5 : decode cX10_unlike 5 = .ok (.istore 4, 2) := by decide +kernel
theorem dX10_unlike_7 : decode cX10_unlike 7 = .ok (.iconst 0, 1) := by decide +kernel
theorem dX10_unlike_8 : decode cX10_unlike 8 = .ok (.istore 5, 2) := by decide +kernel
theorem dX10_unlike_10 : decode cX10_unlike 10 = .ok (.iload 5, 2) := by decide +kernel
theorem dX10_unlike_12 : decode cX10_unlike 12 = .ok (.iconst 4, 1) := by decide +kernel
theorem dX10_unlike_13 : decode cX10_unlike 13 = .ok (.if_icmp .ge 41, 3) := by decide +kernel
theorem dX10_unlike_16 : decode cX10_unlike 16 = .ok (.iload_n 2, 1) := by decide +kernel
theorem dX10_unlike_17 : decode cX10_unlike 17 = .ok (.iload_n 3, 1) := by decide +kernel
theorem dX10_unlike_18 : decode cX10_unlike 18 = .ok (.bipush 10, 2) := by decide +kernel
theorem dX10_unlike_20 : decode cX10_unlike 20 = .ok (.irem, 1) := by decide +kernel
theorem dX10_unlike_21 : decode cX10_unlike 21 = .ok (.iload 4, 2) := by decide +kernel
theorem dX10_unlike_23 : decode cX10_unlike 23 = .ok (.bipush 10, 2) := by decide +kernel
theorem dX10_unlike_25 : decode cX10_unlike 25 = .ok (.irem, 1) := by decide +kernel
theorem dX10_unlike_26 : decode cX10_unlike 26 = .ok (.if_icmp .ne 7, 3) := by decide +kernel
theorem dX10_unlike_29 : decode cX10_unlike 29 = .ok (.iconst 0, 1) := by decide +kernel
theorem dX10_unlike_30 : decode cX10_unlike 30 = .ok (.goto 4, 3) := by decide +kernel
theorem dX10_unlike_33 : decode cX10_unlike 33 = .ok (.iconst 1, 1) := by decide +kernel
theorem dX10_unlike_34 : decode cX10_unlike 34 = .ok (.iadd, 1) := by decide +kernel
theorem dX10_unlike_35 : decode cX10_unlike 35 = .ok (.istore_n 2, 1) := by decide +kernel
theorem dX10_unlike_36 : decode cX10_unlike 36 = .ok (.iload_n 3, 1) := by decide +kernel
theorem dX10_unlike_37 : decode cX10_unlike 37 = .ok (.bipush 10, 2) := by decide +kernel
theorem dX10_unlike_39 : decode cX10_unlike 39 = .ok (.idiv, 1) := by decide +kernel
theorem dX10_unlike_40 : decode cX10_unlike 40 = .ok (.istore_n 3, 1) := by decide +kernel
theorem dX10_unlike_41 : decode cX10_unlike 41 = .ok (.iload 4, 2) := by decide +kernel
theorem dX10_unlike_43 : decode cX10_unlike 43 = .ok (.bipush 10, 2) := by decide +kernel
theorem dX10_unlike_45 : decode cX10_unlike 45 = .ok (.idiv, 1) := by decide +kernel
theorem dX10_unlike_46 : decode cX10_unlike 46 = .ok (.istore 4, 2) := by decide +kernel
theorem dX10_unlike_48 : decode cX10_unlike 48 = .ok (.iinc 5 1, 3) := by decide +kernel
theorem dX10_unlike_51 : decode cX10_unlike 51 = .ok (.goto (-41), 3) := by decide +kernel
theorem dX10_unlike_54 : decode cX10_unlike 54 = .ok (.iload_n 2, 1) := by decide +kernel
theorem dX10_unlike_55 : decode cX10_unlike 55 = .ok (.ireturn, 1) := by decide +kernel
theorem dX10_fits_0 : decode cX10_fits 0 = .ok (.aload_n 0, 1) := by decide +kernel
theorem dX10_fits_1 : decode cX10_fits 1 = .ok (.iload_n 1, 1) := by decide +kernel
theorem dX10_fits_2 : decode cX10_fits 2 = .ok (.invokevirtual 87, 3) := by decide +kernel
theorem dX10_fits_5 : decode cX10_fits 5 = .ok (.istore_n 3, 1) := by decide +kernel
theorem dX10_fits_6 : decode cX10_fits 6 = .ok (.aload_n 0, 1) := by decide +kernel
theorem dX10_fits_7 : decode cX10_fits 7 = .ok (.getfield 7, 3) := by decide +kernel
theorem dX10_fits_10 : decode cX10_fits 10 = .ok (.iload_n 3, 1) := by decide +kernel
theorem dX10_fits_11 : decode cX10_fits 11 = .ok (.iconst 4, 1) := by decide +kernel
theorem dX10_fits_12 : decode cX10_fits 12 = .ok (.iadd, 1) := by decide +kernel
theorem dX10_fits_13 : decode cX10_fits 13 = .ok (.iaload, 1) := by decide +kernel
theorem dX10_fits_14 : decode cX10_fits 14 = .ok (.istore 4, 2) := by decide +kernel
theorem dX10_fits_16 : decode cX10_fits 16 = .ok (.iload 4, 2) := by decide +kernel
theorem dX10_fits_18 : decode cX10_fits 18 = .ok (.ifCond .ge 7, 3) := by decide +kernel
theorem dX10_fits_21 : decode cX10_fits 21 = .ok (.iconst 0, 1) := by decide +kernel
theorem dX10_fits_22 : decode cX10_fits 22 = .ok (.goto 16, 3) := by decide +kernel
theorem dX10_fits_25 : decode cX10_fits 25 = .ok (.aload_n 0, 1) := by decide +kernel
theorem dX10_fits_26 : decode cX10_fits 26 = .ok (.getfield 7, 3) := by decide +kernel
theorem dX10_fits_29 : decode cX10_fits 29 = .ok (.aload_n 0, 1) := by decide +kernel
theorem dX10_fits_30 : decode cX10_fits 30 = .ok (.iload 4, 2) := by decide +kernel
theorem dX10_fits_32 : decode cX10_fits 32 = .ok (.invokevirtual 87, 3) := by decide +kernel
theorem dX10_fits_35 : decode cX10_fits 35 = .ok (.iconst 2, 1) := by decide +kernel
theorem dX10_fits_36 : decode cX10_fits 36 = .ok (.iadd, 1) := by decide +kernel
theorem dX10_fits_37 : decode cX10_fits 37 = .ok (.iaload, 1) := by decide +kernel
theorem dX10_fits_38 : decode cX10_fits 38 = .ok (.istore 5, 2) := by decide +kernel
theorem dX10_fits_40 : decode cX10_fits 40 = .ok (.aload_n 0, 1) := by decide +kernel
theorem dX10_fits_41 : decode cX10_fits 41 = .ok (.aload_n 0, 1) := by decide +kernel
theorem dX10_fits_42 : decode cX10_fits 42 = .ok (.getfield 7, 3) := by decide +kernel
theorem dX10_fits_45 : decode cX10_fits 45 = .ok (.iload_n 3, 1) := by decide +kernel
theorem dX10_fits_46 : decode cX10_fits 46 = .ok (.iaload, 1) := by decide +kernel
theorem dX10_fits_47 : decode cX10_fits 47 = .ok (.invokevirtual 112, 3) := by decide +kernel
theorem dX10_fits_50 : decode cX10_fits 50 = .ok (.ifCond .lt 7, 3) := by decide +kernel
theorem dX10_fits_53 : decode cX10_fits 53 = .ok (.iconst 1, 1) := by decide +kernel
theorem dX10_fits_54 : decode cX10_fits 54 = .ok (.goto 4, 3) := by decide +kernel
theorem dX10_fits_57 : decode cX10_fits 57 = .ok (.iconst 0, 1) := by decide +kernel
theorem dX10_fits_58 : decode cX10_fits 58 = .ok (.istore 6, 2) := by decide +kernel
theorem dX10_fits_60 : decode cX10_fits 60 = .ok (.iload_n 2, 1) := by decide +kernel
theorem dX10_fits_61 : decode cX10_fits 61 = .ok (.tableswitch 222 1 7 #[43, 77, 104, 143, 167, 222, 195], 43) := by decide +kernel
theorem dX10_fits_104 : decode cX10_fits 104 = .ok (.aload_n 0, 1) := by decide +kernel
theorem dX10_fits_105 : decode cX10_fits 105 = .ok (.getfield 7, 3) := by decide +kernel
theorem dX10_fits_108 : decode cX10_fits 108 = .ok (.iload_n 3, 1) := by decide +kernel
theorem dX10_fits_109 : decode cX10_fits 109 = .ok (.iconst 2, 1) := by decide +kernel
theorem dX10_fits_110 : decode cX10_fits 110 = .ok (.iadd, 1) := by decide +kernel
theorem dX10_fits_111 : decode cX10_fits 111 = .ok (.iaload, 1) := by decide +kernel
theorem dX10_fits_112 : decode cX10_fits 112 = .ok (.aload_n 0, 1) := by decide +kernel
theorem dX10_fits_113 : decode cX10_fits 113 = .ok (.getfield 7, 3) := by decide +kernel
theorem dX10_fits_116 : decode cX10_fits 116 = .ok (.bipush 8, 2) := by decide +kernel
theorem dX10_fits_118 : decode cX10_fits 118 = .ok (.iaload, 1) := by decide +kernel
theorem dX10_fits_119 : decode cX10_fits 119 = .ok (.isub, 1) := by decide +kernel
theorem dX10_fits_120 : decode cX10_fits 120 = .ok (.i2l, 1) := by decide +kernel
theorem dX10_fits_121 : decode cX10_fits 121 = .ok (.aload_n 0, 1) := by decide +kernel
theorem dX10_fits_122 : decode cX10_fits 122 = .ok (.iload_n 1, 1) := by decide +kernel
theorem dX10_fits_123 : decode cX10_fits 123 = .ok (.invokevirtual 128, 3) := by decide +kernel
theorem dX10_fits_126 : decode cX10_fits 126 = .ok (.ineg, 1) := by decide +kernel
theorem dX10_fits_127 : decode cX10_fits 127 = .ok (.i2l, 1) := by decide +kernel
theorem dX10_fits_128 : decode cX10_fits 128 = .ok (.aload_n 0, 1) := by decide +kernel
theorem dX10_fits_129 : decode cX10_fits 129 = .ok (.iload_n 1, 1) := by decide +kernel
theorem dX10_fits_130 : decode cX10_fits 130 = .ok (.invokevirtual 128, 3) := by decide +kernel
theorem dX10_fits_133 : decode cX10_fits 133 = .ok (.i2l, 1) := by decide +kernel
theorem dX10_fits_134 : decode cX10_fits 134 = .ok (.invokestatic 74, 3) := by decide +kernel
theorem dX10_fits_137 : decode cX10_fits 137 = .ok (.ireturn, 1) := by decide +kernel
theorem dX10_fits_138 : decode cX10_fits 138 = .ok (.iload 6, 2) := by decide +kernel
theorem dX10_fits_140 : decode cX10_fits 140 = .ok (.ifCond .eq 23, 3) := by decide +kernel
theorem dX10_fits_143 : decode cX10_fits 143 = .ok (.aload_n 0, 1) := by decide +kernel
theorem dX10_fits_144 : decode cX10_fits 144 = .ok (.iload_n 1, 1) := by decide +kernel
theorem dX10_fits_145 : decode cX10_fits 145 = .ok (.invokevirtual 131, 3) := by decide +kernel
theorem dX10_fits_148 : decode cX10_fits 148 = .ok (.aload_n 0, 1) := by decide +kernel
theorem dX10_fits_149 : decode cX10_fits 149 = .ok (.getfield 7, 3) := by decide +kernel
theorem dX10_fits_152 : decode cX10_fits 152 = .ok (.iload_n 3, 1) := by decide +kernel
theorem dX10_fits_153 : decode cX10_fits 153 = .ok (.iconst 2, 1) := by decide +kernel
theorem dX10_fits_154 : decode cX10_fits 154 = .ok (.iadd, 1) := by decide +kernel
theorem dX10_fits_155 : decode cX10_fits 155 = .ok (.iaload, 1) := by decide +kernel
theorem dX10_fits_156 : decode cX10_fits 156 = .ok (.if_icmp .ne 7, 3) := by decide +kernel
theorem dX10_fits_159 : decode cX10_fits 159 = .ok (.iconst 1, 1) := by decide +kernel
theorem dX10_fits_160 : decode cX10_fits 160 = .ok (.goto 4, 3) := by decide +kernel
theorem dX10_fits_163 : decode cX10_fits 163 = .ok (.iconst 0, 1) := by decide +kernel
theorem dX10_fits_164 : decode cX10_fits 164 = .ok (.ireturn, 1) := by decide +kernel
theorem dX10_fits_165 : decode cX10_fits 165 = .ok (.iload 6, 2) := by decide +kernel
theorem dX10_fits_167 : decode cX10_fits 167 = .ok (.ifCond .eq 35, 3) := by decide +kernel
theorem dX10_fits_170 : decode cX10_fits 170 = .ok (.aload_n 0, 1) := by decide +kernel
theorem dX10_fits_171 : decode cX10_fits 171 = .ok (.iload_n 1, 1) := by decide +kernel
theorem dX10_fits_172 : decode cX10_fits 172 = .ok (.invokevirtual 131, 3) := by decide +kernel
theorem dX10_fits_175 : decode cX10_fits 175 = .ok (.i2l, 1) := by decide +kernel
theorem dX10_fits_176 : decode cX10_fits 176 = .ok (.aload_n 0, 1) := by decide +kernel
theorem dX10_fits_177 : decode cX10_fits 177 = .ok (.getfield 7, 3) := by decide +kernel
theorem dX10_fits_180 : decode cX10_fits 180 = .ok (.iload_n 3, 1) := by decide +kernel
theorem dX10_fits_181 : decode cX10_fits 181 = .ok (.iconst 2, 1) := by decide +kernel
theorem dX10_fits_182 : decode cX10_fits 182 = .ok (.iadd, 1) := by decide +kernel
theorem dX10_fits_183 : decode cX10_fits 183 = .ok (.iaload, 1) := by decide +kernel
theorem dX10_fits_184 : decode cX10_fits 184 = .ok (.i2l, 1) := by decide +kernel
theorem dX10_fits_185 : decode cX10_fits 185 = .ok (.lsub, 1) := by decide +kernel
theorem dX10_fits_186 : decode cX10_fits 186 = .ok (.ldc2_w 134, 3) := by decide +kernel
theorem dX10_fits_189 : decode cX10_fits 189 = .ok (.ldc2_w 136, 3) := by decide +kernel
theorem dX10_fits_192 : decode cX10_fits 192 = .ok (.invokestatic 74, 3) := by decide +kernel
theorem dX10_fits_195 : decode cX10_fits 195 = .ok (.ifCond .eq 7, 3) := by decide +kernel
theorem dX10_fits_198 : decode cX10_fits 198 = .ok (.iconst 1, 1) := by decide +kernel
theorem dX10_fits_199 : decode cX10_fits 199 = .ok (.goto 4, 3) := by decide +kernel
theorem dX10_fits_202 : decode cX10_fits 202 = .ok (.iconst 0, 1) := by decide +kernel
theorem dX10_fits_203 : decode cX10_fits 203 = .ok (.ireturn, 1) := by decide +kernel
theorem dX10_fits_204 : decode cX10_fits 204 = .ok (.iload 4, 2) := by decide +kernel
theorem dX10_fits_206 : decode cX10_fits 206 = .ok (.ifCond .lt 20, 3) := by decide +kernel
theorem dX10_fits_209 : decode cX10_fits 209 = .ok (.iload 5, 2) := by decide +kernel
theorem dX10_fits_211 : decode cX10_fits 211 = .ok (.aload_n 0, 1) := by decide +kernel
theorem dX10_fits_212 : decode cX10_fits 212 = .ok (.getfield 7, 3) := by decide +kernel
theorem dX10_fits_215 : decode cX10_fits 215 = .ok (.iload_n 3, 1) := by decide +kernel
theorem dX10_fits_216 : decode cX10_fits 216 = .ok (.iconst 2, 1) := by decide +kernel
theorem dX10_fits_217 : decode cX10_fits 217 = .ok (.iadd, 1) := by decide +kernel
theorem dX10_fits_218 : decode cX10_fits 218 = .ok (.iaload, 1) := by decide +kernel
theorem dX10_fits_219 : decode cX10_fits 219 = .ok (.if_icmp .ne 7, 3) := by decide +kernel
theorem dX10_fits_222 : decode cX10_fits 222 = .ok (.iconst 1, 1) := by decide +kernel
theorem dX10_fits_223 : decode cX10_fits 223 = .ok (.goto 4, 3) := by decide +kernel
theorem dX10_fits_226 : decode cX10_fits 226 = .ok (.iconst 0, 1) := by decide +kernel
theorem dX10_fits_227 : decode cX10_fits 227 = .ok (.ireturn, 1) := by decide +kernel
theorem dX10_fits_228 : decode cX10_fits 228 = .ok (.iload 4, 2) := by decide +kernel
theorem dX10_fits_230 : decode cX10_fits 230 = .ok (.ifCond .lt 24, 3) := by decide +kernel
theorem dX10_fits_233 : decode cX10_fits 233 = .ok (.iload 5, 2) := by decide +kernel
theorem dX10_fits_235 : decode cX10_fits 235 = .ok (.aload_n 0, 1) := by decide +kernel
theorem dX10_fits_236 : decode cX10_fits 236 = .ok (.getfield 7, 3) := by decide +kernel
theorem dX10_fits_239 : decode cX10_fits 239 = .ok (.iload_n 3, 1) := by decide +kernel
theorem dX10_fits_240 : decode cX10_fits 240 = .ok (.iconst 2, 1) := by decide +kernel
theorem dX10_fits_241 : decode cX10_fits 241 = .ok (.iadd, 1) := by decide +kernel
theorem dX10_fits_242 : decode cX10_fits 242 = .ok (.iaload, 1) := by decide +kernel
theorem dX10_fits_243 : decode cX10_fits 243 = .ok (.invokestatic 138, 3) := by decide +kernel
theorem dX10_fits_246 : decode cX10_fits 246 = .ok (.iconst 1, 1) := by decide +kernel
theorem dX10_fits_247 : decode cX10_fits 247 = .ok (.if_icmp .ne 7, 3) := by decide +kernel
theorem dX10_fits_250 : decode cX10_fits 250 = .ok (.iconst 1, 1) := by decide +kernel
theorem dX10_fits_251 : decode cX10_fits 251 = .ok (.goto 4, 3) := by decide +kernel
theorem dX10_fits_254 : decode cX10_fits 254 = .ok (.iconst 0, 1) := by decide +kernel
theorem dX10_fits_255 : decode cX10_fits 255 = .ok (.ireturn, 1) := by decide +kernel
theorem dX10_fits_256 : decode cX10_fits 256 = .ok (.iload 4, 2) := by decide +kernel
theorem dX10_fits_258 : decode cX10_fits 258 = .ok (.ifCond .lt 23, 3) := by decide +kernel
theorem dX10_fits_261 : decode cX10_fits 261 = .ok (.iload 5, 2) := by decide +kernel
theorem dX10_fits_263 : decode cX10_fits 263 = .ok (.aload_n 0, 1) := by decide +kernel
theorem dX10_fits_264 : decode cX10_fits 264 = .ok (.getfield 7, 3) := by decide +kernel
theorem dX10_fits_267 : decode cX10_fits 267 = .ok (.iload_n 3, 1) := by decide +kernel
theorem dX10_fits_268 : decode cX10_fits 268 = .ok (.iconst 2, 1) := by decide +kernel
theorem dX10_fits_269 : decode cX10_fits 269 = .ok (.iadd, 1) := by decide +kernel
theorem dX10_fits_270 : decode cX10_fits 270 = .ok (.iaload, 1) := by decide +kernel
theorem dX10_fits_271 : decode cX10_fits 271 = .ok (.iadd, 1) := by decide +kernel
theorem dX10_fits_272 : decode cX10_fits 272 = .ok (.iconst 2, 1) := by decide +kernel
theorem dX10_fits_273 : decode cX10_fits 273 = .ok (.irem, 1) := by decide +kernel
theorem dX10_fits_274 : decode cX10_fits 274 = .ok (.ifCond .ne 7, 3) := by decide +kernel
theorem dX10_fits_277 : decode cX10_fits 277 = .ok (.iconst 1, 1) := by decide +kernel
theorem dX10_fits_278 : decode cX10_fits 278 = .ok (.goto 4, 3) := by decide +kernel
theorem dX10_fits_281 : decode cX10_fits 281 = .ok (.iconst 0, 1) := by decide +kernel
theorem dX10_fits_282 : decode cX10_fits 282 = .ok (.ireturn, 1) := by decide +kernel
theorem dX10_fits_283 : decode cX10_fits 283 = .ok (.iconst 1, 1) := by decide +kernel
theorem dX10_fits_284 : decode cX10_fits 284 = .ok (.ireturn, 1) := by decide +kernel
theorem dX10_priceOf_0 : decode cX10_priceOf 0 = .ok (.iload_n 0, 1) := by decide +kernel
theorem dX10_priceOf_1 : decode cX10_priceOf 1 = .ok (.tableswitch 65 1 7 #[43, 45, 47, 49, 51, 54, 57], 43) := by decide +kernel
theorem dX10_priceOf_44 : decode cX10_priceOf 44 = .ok (.iconst 1, 1) := by decide +kernel
theorem dX10_priceOf_45 : decode cX10_priceOf 45 = .ok (.ireturn, 1) := by decide +kernel
theorem dX10_priceOf_46 : decode cX10_priceOf 46 = .ok (.iconst 3, 1) := by decide +kernel
theorem dX10_priceOf_47 : decode cX10_priceOf 47 = .ok (.ireturn, 1) := by decide +kernel
theorem dX10_priceOf_48 : decode cX10_priceOf 48 = .ok (.iconst 4, 1) := by decide +kernel
theorem dX10_priceOf_49 : decode cX10_priceOf 49 = .ok (.ireturn, 1) := by decide +kernel
theorem dX10_priceOf_50 : decode cX10_priceOf 50 = .ok (.iconst 2, 1) := by decide +kernel
theorem dX10_priceOf_51 : decode cX10_priceOf 51 = .ok (.ireturn, 1) := by decide +kernel
theorem dX10_priceOf_52 : decode cX10_priceOf 52 = .ok (.bipush 8, 2) := by decide +kernel
theorem dX10_priceOf_54 : decode cX10_priceOf 54 = .ok (.ireturn, 1) := by decide +kernel
theorem dX10_priceOf_55 : decode cX10_priceOf 55 = .ok (.bipush 20, 2) := by decide +kernel
theorem dX10_priceOf_57 : decode cX10_priceOf 57 = .ok (.ireturn, 1) := by decide +kernel
theorem dX10_priceOf_58 : decode cX10_priceOf 58 = .ok (.bipush 20, 2) := by decide +kernel
theorem dX10_priceOf_60 : decode cX10_priceOf 60 = .ok (.iload_n 1, 1) := by decide +kernel
theorem dX10_priceOf_61 : decode cX10_priceOf 61 = .ok (.bipush 100, 2) := by decide +kernel
theorem dX10_priceOf_63 : decode cX10_priceOf 63 = .ok (.idiv, 1) := by decide +kernel
theorem dX10_priceOf_64 : decode cX10_priceOf 64 = .ok (.iadd, 1) := by decide +kernel
theorem dX10_priceOf_65 : decode cX10_priceOf 65 = .ok (.ireturn, 1) := by decide +kernel
theorem dX10_priceOf_66 : decode cX10_priceOf 66 = .ok (.iconst 5, 1) := by decide +kernel
theorem dX10_priceOf_67 : decode cX10_priceOf 67 = .ok (.ireturn, 1) := by decide +kernel
theorem dX10_told_0 : decode cX10_told 0 = .ok (.aload_n 0, 1) := by decide +kernel
theorem dX10_told_1 : decode cX10_told 1 = .ok (.iload_n 1, 1) := by decide +kernel
theorem dX10_told_2 : decode cX10_told 2 = .ok (.invokevirtual 102, 3) := by decide +kernel
theorem dX10_told_5 : decode cX10_told 5 = .ok (.ifCond .ne 6, 3) := by decide +kernel
theorem dX10_told_8 : decode cX10_told 8 = .ok (.ldc 84, 2) := by decide +kernel
theorem dX10_told_10 : decode cX10_told 10 = .ok (.ireturn, 1) := by decide +kernel
theorem dX10_told_11 : decode cX10_told 11 = .ok (.aload_n 0, 1) := by decide +kernel
theorem dX10_told_12 : decode cX10_told 12 = .ok (.iload_n 1, 1) := by decide +kernel
theorem dX10_told_13 : decode cX10_told 13 = .ok (.invokevirtual 87, 3) := by decide +kernel
theorem dX10_told_16 : decode cX10_told 16 = .ok (.istore_n 3, 1) := by decide +kernel
theorem dX10_told_17 : decode cX10_told 17 = .ok (.iload_n 2, 1) := by decide +kernel
theorem dX10_told_18 : decode cX10_told 18 = .ok (.tableswitch 169 0 10 #[58, 58, 58, 58, 67, 79, 101, 121, 127, 151, 163], 58) := by decide +kernel
theorem dX10_told_76 : decode cX10_told 76 = .ok (.aload_n 0, 1) := by decide +kernel
theorem dX10_told_77 : decode cX10_told 77 = .ok (.getfield 7, 3) := by decide +kernel
theorem dX10_told_80 : decode cX10_told 80 = .ok (.iload_n 3, 1) := by decide +kernel
theorem dX10_told_81 : decode cX10_told 81 = .ok (.iload_n 2, 1) := by decide +kernel
theorem dX10_told_82 : decode cX10_told 82 = .ok (.iadd, 1) := by decide +kernel
theorem dX10_told_83 : decode cX10_told 83 = .ok (.iaload, 1) := by decide +kernel
theorem dX10_told_84 : decode cX10_told 84 = .ok (.ireturn, 1) := by decide +kernel
theorem dX10_told_85 : decode cX10_told 85 = .ok (.aload_n 0, 1) := by decide +kernel
theorem dX10_told_86 : decode cX10_told 86 = .ok (.getfield 7, 3) := by decide +kernel
theorem dX10_told_89 : decode cX10_told 89 = .ok (.iload_n 3, 1) := by decide +kernel
theorem dX10_told_90 : decode cX10_told 90 = .ok (.iconst 4, 1) := by decide +kernel
theorem dX10_told_91 : decode cX10_told 91 = .ok (.iadd, 1) := by decide +kernel
theorem dX10_told_92 : decode cX10_told 92 = .ok (.iaload, 1) := by decide +kernel
theorem dX10_told_93 : decode cX10_told 93 = .ok (.invokestatic 141, 3) := by decide +kernel
theorem dX10_told_96 : decode cX10_told 96 = .ok (.ireturn, 1) := by decide +kernel
theorem dX10_told_97 : decode cX10_told 97 = .ok (.aload_n 0, 1) := by decide +kernel
theorem dX10_told_98 : decode cX10_told 98 = .ok (.iload_n 1, 1) := by decide +kernel
theorem dX10_told_99 : decode cX10_told 99 = .ok (.aload_n 0, 1) := by decide +kernel
theorem dX10_told_100 : decode cX10_told 100 = .ok (.getfield 7, 3) := by decide +kernel
theorem dX10_told_103 : decode cX10_told 103 = .ok (.iload_n 3, 1) := by decide +kernel
theorem dX10_told_104 : decode cX10_told 104 = .ok (.iconst 1, 1) := by decide +kernel
theorem dX10_told_105 : decode cX10_told 105 = .ok (.iadd, 1) := by decide +kernel
theorem dX10_told_106 : decode cX10_told 106 = .ok (.iaload, 1) := by decide +kernel
theorem dX10_told_107 : decode cX10_told 107 = .ok (.invokevirtual 144, 3) := by decide +kernel
theorem dX10_told_110 : decode cX10_told 110 = .ok (.ifCond .eq 7, 3) := by decide +kernel
theorem dX10_told_113 : decode cX10_told 113 = .ok (.iconst 1, 1) := by decide +kernel
theorem dX10_told_114 : decode cX10_told 114 = .ok (.goto 4, 3) := by decide +kernel
theorem dX10_told_117 : decode cX10_told 117 = .ok (.iconst 0, 1) := by decide +kernel
theorem dX10_told_118 : decode cX10_told 118 = .ok (.ireturn, 1) := by decide +kernel
theorem dX10_told_119 : decode cX10_told 119 = .ok (.aload_n 0, 1) := by decide +kernel
theorem dX10_told_120 : decode cX10_told 120 = .ok (.getfield 7, 3) := by decide +kernel
theorem dX10_told_123 : decode cX10_told 123 = .ok (.iload_n 3, 1) := by decide +kernel
theorem dX10_told_124 : decode cX10_told 124 = .ok (.iconst 1, 1) := by decide +kernel
theorem dX10_told_125 : decode cX10_told 125 = .ok (.iadd, 1) := by decide +kernel
theorem dX10_told_126 : decode cX10_told 126 = .ok (.iaload, 1) := by decide +kernel
theorem dX10_told_127 : decode cX10_told 127 = .ok (.aload_n 0, 1) := by decide +kernel
theorem dX10_told_128 : decode cX10_told 128 = .ok (.getfield 7, 3) := by decide +kernel
theorem dX10_told_131 : decode cX10_told 131 = .ok (.iload_n 3, 1) := by decide +kernel
theorem dX10_told_132 : decode cX10_told 132 = .ok (.iconst 3, 1) := by decide +kernel
theorem dX10_told_133 : decode cX10_told 133 = .ok (.iadd, 1) := by decide +kernel
theorem dX10_told_134 : decode cX10_told 134 = .ok (.iaload, 1) := by decide +kernel
theorem dX10_told_135 : decode cX10_told 135 = .ok (.invokestatic 148, 3) := by decide +kernel
theorem dX10_told_138 : decode cX10_told 138 = .ok (.ireturn, 1) := by decide +kernel
theorem dX10_told_139 : decode cX10_told 139 = .ok (.aload_n 0, 1) := by decide +kernel
theorem dX10_told_140 : decode cX10_told 140 = .ok (.iload_n 1, 1) := by decide +kernel
theorem dX10_told_141 : decode cX10_told 141 = .ok (.invokevirtual 128, 3) := by decide +kernel
theorem dX10_told_144 : decode cX10_told 144 = .ok (.ireturn, 1) := by decide +kernel
theorem dX10_told_145 : decode cX10_told 145 = .ok (.aload_n 0, 1) := by decide +kernel
theorem dX10_told_146 : decode cX10_told 146 = .ok (.aload_n 0, 1) := by decide +kernel
theorem dX10_told_147 : decode cX10_told 147 = .ok (.getfield 7, 3) := by decide +kernel
theorem dX10_told_150 : decode cX10_told 150 = .ok (.iload_n 3, 1) := by decide +kernel
theorem dX10_told_151 : decode cX10_told 151 = .ok (.iaload, 1) := by decide +kernel
theorem dX10_told_152 : decode cX10_told 152 = .ok (.invokevirtual 112, 3) := by decide +kernel
theorem dX10_told_155 : decode cX10_told 155 = .ok (.ifCond .ge 8, 3) := by decide +kernel
theorem dX10_told_158 : decode cX10_told 158 = .ok (.ldc 73, 2) := by decide +kernel
theorem dX10_told_160 : decode cX10_told 160 = .ok (.goto 8, 3) := by decide +kernel
theorem dX10_told_163 : decode cX10_told 163 = .ok (.aload_n 0, 1) := by decide +kernel
theorem dX10_told_164 : decode cX10_told 164 = .ok (.iload_n 1, 1) := by decide +kernel
theorem dX10_told_165 : decode cX10_told 165 = .ok (.invokevirtual 131, 3) := by decide +kernel
theorem dX10_told_168 : decode cX10_told 168 = .ok (.ireturn, 1) := by decide +kernel
theorem dX10_told_169 : decode cX10_told 169 = .ok (.aload_n 0, 1) := by decide +kernel
theorem dX10_told_170 : decode cX10_told 170 = .ok (.getfield 7, 3) := by decide +kernel
theorem dX10_told_173 : decode cX10_told 173 = .ok (.iload_n 3, 1) := by decide +kernel
theorem dX10_told_174 : decode cX10_told 174 = .ok (.iconst 5, 1) := by decide +kernel
theorem dX10_told_175 : decode cX10_told 175 = .ok (.iadd, 1) := by decide +kernel
theorem dX10_told_176 : decode cX10_told 176 = .ok (.iaload, 1) := by decide +kernel
theorem dX10_told_177 : decode cX10_told 177 = .ok (.invokestatic 141, 3) := by decide +kernel
theorem dX10_told_180 : decode cX10_told 180 = .ok (.ireturn, 1) := by decide +kernel
theorem dX10_told_181 : decode cX10_told 181 = .ok (.aload_n 0, 1) := by decide +kernel
theorem dX10_told_182 : decode cX10_told 182 = .ok (.iload_n 1, 1) := by decide +kernel
theorem dX10_told_183 : decode cX10_told 183 = .ok (.invokevirtual 122, 3) := by decide +kernel
theorem dX10_told_186 : decode cX10_told 186 = .ok (.ireturn, 1) := by decide +kernel
theorem dX10_told_187 : decode cX10_told 187 = .ok (.ldc 84, 2) := by decide +kernel
theorem dX10_told_189 : decode cX10_told 189 = .ok (.ireturn, 1) := by decide +kernel
theorem dX10_isOf_0 : decode cX10_isOf 0 = .ok (.iload_n 1, 1) := by decide +kernel
theorem dX10_isOf_1 : decode cX10_isOf 1 = .ok (.ifCond .eq 30, 3) := by decide +kernel
theorem dX10_isOf_4 : decode cX10_isOf 4 = .ok (.iload_n 0, 1) := by decide +kernel
theorem dX10_isOf_5 : decode cX10_isOf 5 = .ok (.iload_n 1, 1) := by decide +kernel
theorem dX10_isOf_6 : decode cX10_isOf 6 = .ok (.if_icmp .eq 25, 3) := by decide +kernel
theorem dX10_isOf_9 : decode cX10_isOf 9 = .ok (.iload_n 1, 1) := by decide +kernel
theorem dX10_isOf_10 : decode cX10_isOf 10 = .ok (.iconst 2, 1) := by decide +kernel
theorem dX10_isOf_11 : decode cX10_isOf 11 = .ok (.if_icmp .ne 8, 3) := by decide +kernel
theorem dX10_isOf_14 : decode cX10_isOf 14 = .ok (.iload_n 0, 1) := by decide +kernel
theorem dX10_isOf_15 : decode cX10_isOf 15 = .ok (.iconst 3, 1) := by decide +kernel
theorem dX10_isOf_16 : decode cX10_isOf 16 = .ok (.if_icmp .eq 15, 3) := by decide +kernel
theorem dX10_isOf_19 : decode cX10_isOf 19 = .ok (.iload_n 1, 1) := by decide +kernel
theorem dX10_isOf_20 : decode cX10_isOf 20 = .ok (.bipush 6, 2) := by decide +kernel
theorem dX10_isOf_22 : decode cX10_isOf 22 = .ok (.if_icmp .ne 13, 3) := by decide +kernel
theorem dX10_isOf_25 : decode cX10_isOf 25 = .ok (.iload_n 0, 1) := by decide +kernel
theorem dX10_isOf_26 : decode cX10_isOf 26 = .ok (.bipush 7, 2) := by decide +kernel
theorem dX10_isOf_28 : decode cX10_isOf 28 = .ok (.if_icmp .ne 7, 3) := by decide +kernel
theorem dX10_isOf_31 : decode cX10_isOf 31 = .ok (.iconst 1, 1) := by decide +kernel
theorem dX10_isOf_32 : decode cX10_isOf 32 = .ok (.goto 4, 3) := by decide +kernel
theorem dX10_isOf_35 : decode cX10_isOf 35 = .ok (.iconst 0, 1) := by decide +kernel
theorem dX10_isOf_36 : decode cX10_isOf 36 = .ok (.ireturn, 1) := by decide +kernel
theorem dX10_as_0 : decode cX10_as 0 = .ok (.aload_n 0, 1) := by decide +kernel
theorem dX10_as_1 : decode cX10_as 1 = .ok (.iload_n 1, 1) := by decide +kernel
theorem dX10_as_2 : decode cX10_as 2 = .ok (.invokevirtual 102, 3) := by decide +kernel
theorem dX10_as_5 : decode cX10_as 5 = .ok (.ifCond .eq 15, 3) := by decide +kernel
theorem dX10_as_8 : decode cX10_as 8 = .ok (.iload_n 2, 1) := by decide +kernel
theorem dX10_as_9 : decode cX10_as 9 = .ok (.i2l, 1) := by decide +kernel
theorem dX10_as_10 : decode cX10_as 10 = .ok (.lconst 0, 1) := by decide +kernel
theorem dX10_as_11 : decode cX10_as 11 = .ok (.ldc2_w 95, 3) := by decide +kernel
theorem dX10_as_14 : decode cX10_as 14 = .ok (.invokestatic 74, 3) := by decide +kernel
theorem dX10_as_17 : decode cX10_as 17 = .ok (.ifCond .ne 6, 3) := by decide +kernel
theorem dX10_as_20 : decode cX10_as 20 = .ok (.ldc 84, 2) := by decide +kernel
theorem dX10_as_22 : decode cX10_as 22 = .ok (.ireturn, 1) := by decide +kernel
theorem dX10_as_23 : decode cX10_as 23 = .ok (.aload_n 0, 1) := by decide +kernel
theorem dX10_as_24 : decode cX10_as 24 = .ok (.getfield 7, 3) := by decide +kernel
theorem dX10_as_27 : decode cX10_as 27 = .ok (.aload_n 0, 1) := by decide +kernel
theorem dX10_as_28 : decode cX10_as 28 = .ok (.iload_n 1, 1) := by decide +kernel
theorem dX10_as_29 : decode cX10_as 29 = .ok (.invokevirtual 87, 3) := by decide +kernel
theorem dX10_as_32 : decode cX10_as 32 = .ok (.iconst 1, 1) := by decide +kernel
theorem dX10_as_33 : decode cX10_as 33 = .ok (.iadd, 1) := by decide +kernel
theorem dX10_as_34 : decode cX10_as 34 = .ok (.iaload, 1) := by decide +kernel
theorem dX10_as_35 : decode cX10_as 35 = .ok (.iload_n 2, 1) := by decide +kernel
theorem dX10_as_36 : decode cX10_as 36 = .ok (.invokestatic 151, 3) := by decide +kernel
theorem dX10_as_39 : decode cX10_as 39 = .ok (.ifCond .eq 18, 3) := by decide +kernel
theorem dX10_as_42 : decode cX10_as 42 = .ok (.aload_n 0, 1) := by decide +kernel
theorem dX10_as_43 : decode cX10_as 43 = .ok (.getfield 7, 3) := by decide +kernel
theorem dX10_as_46 : decode cX10_as 46 = .ok (.aload_n 0, 1) := by decide +kernel
theorem dX10_as_47 : decode cX10_as 47 = .ok (.iload_n 1, 1) := by decide +kernel
theorem dX10_as_48 : decode cX10_as 48 = .ok (.invokevirtual 87, 3) := by decide +kernel
theorem dX10_as_51 : decode cX10_as 51 = .ok (.iconst 2, 1) := by decide +kernel
theorem dX10_as_52 : decode cX10_as 52 = .ok (.iadd, 1) := by decide +kernel
theorem dX10_as_53 : decode cX10_as 53 = .ok (.iaload, 1) := by decide +kernel
theorem dX10_as_54 : decode cX10_as 54 = .ok (.goto 5, 3) := by decide +kernel
theorem dX10_as_57 : decode cX10_as 57 = .ok (.ldc 154, 2) := by decide +kernel
theorem dX10_as_59 : decode cX10_as 59 = .ok (.ireturn, 1) := by decide +kernel
theorem dX10_turns_0 : decode cX10_turns 0 = .ok (.aload_n 0, 1) := by decide +kernel
theorem dX10_turns_1 : decode cX10_turns 1 = .ok (.iload_n 1, 1) := by decide +kernel
theorem dX10_turns_2 : decode cX10_turns 2 = .ok (.invokevirtual 102, 3) := by decide +kernel
theorem dX10_turns_5 : decode cX10_turns 5 = .ok (.ifCond .eq 30, 3) := by decide +kernel
theorem dX10_turns_8 : decode cX10_turns 8 = .ok (.iload_n 2, 1) := by decide +kernel
theorem dX10_turns_9 : decode cX10_turns 9 = .ok (.i2l, 1) := by decide +kernel
theorem dX10_turns_10 : decode cX10_turns 10 = .ok (.lconst 0, 1) := by decide +kernel
theorem dX10_turns_11 : decode cX10_turns 11 = .ok (.ldc2_w 95, 3) := by decide +kernel
theorem dX10_turns_14 : decode cX10_turns 14 = .ok (.invokestatic 74, 3) := by decide +kernel
theorem dX10_turns_17 : decode cX10_turns 17 = .ok (.ifCond .eq 18, 3) := by decide +kernel
theorem dX10_turns_20 : decode cX10_turns 20 = .ok (.aload_n 0, 1) := by decide +kernel
theorem dX10_turns_21 : decode cX10_turns 21 = .ok (.aload_n 0, 1) := by decide +kernel
theorem dX10_turns_22 : decode cX10_turns 22 = .ok (.iload_n 1, 1) := by decide +kernel
theorem dX10_turns_23 : decode cX10_turns 23 = .ok (.invokevirtual 87, 3) := by decide +kernel
theorem dX10_turns_26 : decode cX10_turns 26 = .ok (.iconst 1, 1) := by decide +kernel
theorem dX10_turns_27 : decode cX10_turns 27 = .ok (.iadd, 1) := by decide +kernel
theorem dX10_turns_28 : decode cX10_turns 28 = .ok (.iload_n 2, 1) := by decide +kernel
theorem dX10_turns_29 : decode cX10_turns 29 = .ok (.invokevirtual 155, 3) := by decide +kernel
theorem dX10_turns_32 : decode cX10_turns 32 = .ok (.goto 5, 3) := by decide +kernel
theorem dX10_turns_35 : decode cX10_turns 35 = .ok (.ldc 84, 2) := by decide +kernel
theorem dX10_turns_37 : decode cX10_turns 37 = .ok (.ireturn, 1) := by decide +kernel
theorem dX10_base_0 : decode cX10_base 0 = .ok (.iload_n 1, 1) := by decide +kernel
theorem dX10_base_1 : decode cX10_base 1 = .ok (.i2l, 1) := by decide +kernel
theorem dX10_base_2 : decode cX10_base 2 = .ok (.lconst 0, 1) := by decide +kernel
theorem dX10_base_3 : decode cX10_base 3 = .ok (.ldc2_w 97, 3) := by decide +kernel
theorem dX10_base_6 : decode cX10_base 6 = .ok (.invokestatic 74, 3) := by decide +kernel
theorem dX10_base_9 : decode cX10_base 9 = .ok (.ifCond .eq 13, 3) := by decide +kernel
theorem dX10_base_12 : decode cX10_base 12 = .ok (.aload_n 0, 1) := by decide +kernel
theorem dX10_base_13 : decode cX10_base 13 = .ok (.bipush 8, 2) := by decide +kernel
theorem dX10_base_15 : decode cX10_base 15 = .ok (.iload_n 1, 1) := by decide +kernel
theorem dX10_base_16 : decode cX10_base 16 = .ok (.invokevirtual 155, 3) := by decide +kernel
theorem dX10_base_19 : decode cX10_base 19 = .ok (.goto 5, 3) := by decide +kernel
theorem dX10_base_22 : decode cX10_base 22 = .ok (.ldc 84, 2) := by decide +kernel
theorem dX10_base_24 : decode cX10_base 24 = .ok (.ireturn, 1) := by decide +kernel
theorem dX10_feed_0 : decode cX10_feed 0 = .ok (.aload_n 0, 1) := by decide +kernel
theorem dX10_feed_1 : decode cX10_feed 1 = .ok (.getfield 158, 3) := by decide +kernel
theorem dX10_feed_4 : decode cX10_feed 4 = .ok (.bipush 12, 2) := by decide +kernel
theorem dX10_feed_6 : decode cX10_feed 6 = .ok (.iadd, 1) := by decide +kernel
theorem dX10_feed_7 : decode cX10_feed 7 = .ok (.bipush 96, 2) := by decide +kernel
theorem dX10_feed_9 : decode cX10_feed 9 = .ok (.if_icmp .le 6, 3) := by decide +kernel
theorem dX10_feed_12 : decode cX10_feed 12 = .ok (.ldc 86, 2) := by decide +kernel
theorem dX10_feed_14 : decode cX10_feed 14 = .ok (.ireturn, 1) := by decide +kernel
theorem dX10_feed_15 : decode cX10_feed 15 = .ok (.iconst 0, 1) := by decide +kernel
theorem dX10_feed_16 : decode cX10_feed 16 = .ok (.istore 4, 2) := by decide +kernel
theorem dX10_feed_18 : decode cX10_feed 18 = .ok (.iload 4, 2) := by decide +kernel
theorem dX10_feed_20 : decode cX10_feed 20 = .ok (.bipush 12, 2) := by decide +kernel
theorem dX10_feed_22 : decode cX10_feed 22 = .ok (.if_icmp .ge 69, 3) := by decide +kernel
theorem dX10_feed_25 : decode cX10_feed 25 = .ok (.iload 4, 2) := by decide +kernel
theorem dX10_feed_27 : decode cX10_feed 27 = .ok (.iconst 4, 1) := by decide +kernel
theorem dX10_feed_28 : decode cX10_feed 28 = .ok (.if_icmp .ge 7, 3) := by decide +kernel
theorem dX10_feed_31 : decode cX10_feed 31 = .ok (.iload_n 1, 1) := by decide +kernel
theorem dX10_feed_32 : decode cX10_feed 32 = .ok (.goto 15, 3) := by decide +kernel
theorem dX10_feed_35 : decode cX10_feed 35 = .ok (.iload 4, 2) := by decide +kernel
theorem dX10_feed_37 : decode cX10_feed 37 = .ok (.bipush 8, 2) := by decide +kernel
theorem dX10_feed_39 : decode cX10_feed 39 = .ok (.if_icmp .ge 7, 3) := by decide +kernel
theorem dX10_feed_42 : decode cX10_feed 42 = .ok (.iload_n 2, 1) := by decide +kernel
theorem dX10_feed_43 : decode cX10_feed 43 = .ok (.goto 4, 3) := by decide +kernel
theorem dX10_feed_46 : decode cX10_feed 46 = .ok (.iload_n 3, 1) := by decide +kernel
theorem dX10_feed_47 : decode cX10_feed 47 = .ok (.istore 5, 2) := by decide +kernel
theorem dX10_feed_49 : decode cX10_feed 49 = .ok (.aload_n 0, 1) := by decide +kernel
theorem dX10_feed_50 : decode cX10_feed 50 = .ok (.getfield 43, 3) := by decide +kernel
theorem dX10_feed_53 : decode cX10_feed 53 = .ok (.aload_n 0, 1) := by decide +kernel
theorem dX10_feed_54 : decode cX10_feed 54 = .ok (.getfield 158, 3) := by decide +kernel
theorem dX10_feed_57 : decode cX10_feed 57 = .ok (.iload 5, 2) := by decide +kernel
theorem dX10_feed_59 : decode cX10_feed 59 = .ok (.bipush 24, 2) := by decide +kernel
theorem dX10_feed_61 : decode cX10_feed 61 = .ok (.bipush 8, 2) := by decide +kernel
theorem dX10_feed_63 : decode cX10_feed 63 = .ok (.iload 4, 2) := by decide +kernel
theorem dX10_feed_65 : decode cX10_feed 65 = .ok (.iconst 4, 1) := by decide +kernel
theorem dX10_feed_66 : decode cX10_feed 66 = .ok (.irem, 1) := by decide +kernel
theorem dX10_feed_67 : decode cX10_feed 67 = .ok (.imul, 1) := by decide +kernel
theorem dX10_feed_68 : decode cX10_feed 68 = .ok (.isub, 1) := by decide +kernel
theorem dX10_feed_69 : decode cX10_feed 69 = .ok (.ishr, 1) := by decide +kernel
theorem dX10_feed_70 : decode cX10_feed 70 = .ok (.sipush 255, 3) := by decide +kernel
theorem dX10_feed_73 : decode cX10_feed 73 = .ok (.iand, 1) := by decide +kernel
theorem dX10_feed_74 : decode cX10_feed 74 = .ok (.iastore, 1) := by decide +kernel
theorem dX10_feed_75 : decode cX10_feed 75 = .ok (.aload_n 0, 1) := by decide +kernel
theorem dX10_feed_76 : decode cX10_feed 76 = .ok (.dup, 1) := by decide +kernel
theorem dX10_feed_77 : decode cX10_feed 77 = .ok (.getfield 158, 3) := by decide +kernel
theorem dX10_feed_80 : decode cX10_feed 80 = .ok (.iconst 1, 1) := by decide +kernel
theorem dX10_feed_81 : decode cX10_feed 81 = .ok (.iadd, 1) := by decide +kernel
theorem dX10_feed_82 : decode cX10_feed 82 = .ok (.putfield 158, 3) := by decide +kernel
theorem dX10_feed_85 : decode cX10_feed 85 = .ok (.iinc 4 1, 3) := by decide +kernel
theorem dX10_feed_88 : decode cX10_feed 88 = .ok (.goto (-70), 3) := by decide +kernel
theorem dX10_feed_91 : decode cX10_feed 91 = .ok (.aload_n 0, 1) := by decide +kernel
theorem dX10_feed_92 : decode cX10_feed 92 = .ok (.getfield 158, 3) := by decide +kernel
theorem dX10_feed_95 : decode cX10_feed 95 = .ok (.ireturn, 1) := by decide +kernel
theorem dX10_trim_0 : decode cX10_trim 0 = .ok (.iload_n 1, 1) := by decide +kernel
theorem dX10_trim_1 : decode cX10_trim 1 = .ok (.i2l, 1) := by decide +kernel
theorem dX10_trim_2 : decode cX10_trim 2 = .ok (.lconst 0, 1) := by decide +kernel
theorem dX10_trim_3 : decode cX10_trim 3 = .ok (.aload_n 0, 1) := by decide +kernel
theorem dX10_trim_4 : decode cX10_trim 4 = .ok (.getfield 158, 3) := by decide +kernel
theorem dX10_trim_7 : decode cX10_trim 7 = .ok (.i2l, 1) := by decide +kernel
theorem dX10_trim_8 : decode cX10_trim 8 = .ok (.invokestatic 74, 3) := by decide +kernel
theorem dX10_trim_11 : decode cX10_trim 11 = .ok (.ifCond .ne 6, 3) := by decide +kernel
theorem dX10_trim_14 : decode cX10_trim 14 = .ok (.ldc 84, 2) := by decide +kernel
theorem dX10_trim_16 : decode cX10_trim 16 = .ok (.ireturn, 1) := by decide +kernel
theorem dX10_trim_17 : decode cX10_trim 17 = .ok (.aload_n 0, 1) := by decide +kernel
theorem dX10_trim_18 : decode cX10_trim 18 = .ok (.iload_n 1, 1) := by decide +kernel
theorem dX10_trim_19 : decode cX10_trim 19 = .ok (.putfield 158, 3) := by decide +kernel
theorem dX10_trim_22 : decode cX10_trim 22 = .ok (.iload_n 1, 1) := by decide +kernel
theorem dX10_trim_23 : decode cX10_trim 23 = .ok (.ireturn, 1) := by decide +kernel
theorem dX10_isLetter_0 : decode cX10_isLetter 0 = .ok (.iload_n 1, 1) := by decide +kernel
theorem dX10_isLetter_1 : decode cX10_isLetter 1 = .ok (.aload_n 0, 1) := by decide +kernel
theorem dX10_isLetter_2 : decode cX10_isLetter 2 = .ok (.getfield 158, 3) := by decide +kernel
theorem dX10_isLetter_5 : decode cX10_isLetter 5 = .ok (.if_icmp .ge 26, 3) := by decide +kernel
theorem dX10_isLetter_8 : decode cX10_isLetter 8 = .ok (.aload_n 0, 1) := by decide +kernel
theorem dX10_isLetter_9 : decode cX10_isLetter 9 = .ok (.getfield 43, 3) := by decide +kernel
theorem dX10_isLetter_12 : decode cX10_isLetter 12 = .ok (.iload_n 1, 1) := by decide +kernel
theorem dX10_isLetter_13 : decode cX10_isLetter 13 = .ok (.iaload, 1) := by decide +kernel
theorem dX10_isLetter_14 : decode cX10_isLetter 14 = .ok (.i2l, 1) := by decide +kernel
theorem dX10_isLetter_15 : decode cX10_isLetter 15 = .ok (.ldc2_w 162, 3) := by decide +kernel
theorem dX10_isLetter_18 : decode cX10_isLetter 18 = .ok (.ldc2_w 164, 3) := by decide +kernel
theorem dX10_isLetter_21 : decode cX10_isLetter 21 = .ok (.invokestatic 74, 3) := by decide +kernel
theorem dX10_isLetter_24 : decode cX10_isLetter 24 = .ok (.ifCond .eq 7, 3) := by decide +kernel
theorem dX10_isLetter_27 : decode cX10_isLetter 27 = .ok (.iconst 1, 1) := by decide +kernel
theorem dX10_isLetter_28 : decode cX10_isLetter 28 = .ok (.goto 4, 3) := by decide +kernel
theorem dX10_isLetter_31 : decode cX10_isLetter 31 = .ok (.iconst 0, 1) := by decide +kernel
theorem dX10_isLetter_32 : decode cX10_isLetter 32 = .ok (.ireturn, 1) := by decide +kernel
theorem dX10_isDigit_0 : decode cX10_isDigit 0 = .ok (.iload_n 1, 1) := by decide +kernel
theorem dX10_isDigit_1 : decode cX10_isDigit 1 = .ok (.aload_n 0, 1) := by decide +kernel
theorem dX10_isDigit_2 : decode cX10_isDigit 2 = .ok (.getfield 158, 3) := by decide +kernel
theorem dX10_isDigit_5 : decode cX10_isDigit 5 = .ok (.if_icmp .ge 26, 3) := by decide +kernel
theorem dX10_isDigit_8 : decode cX10_isDigit 8 = .ok (.aload_n 0, 1) := by decide +kernel
theorem dX10_isDigit_9 : decode cX10_isDigit 9 = .ok (.getfield 43, 3) := by decide +kernel
theorem dX10_isDigit_12 : decode cX10_isDigit 12 = .ok (.iload_n 1, 1) := by decide +kernel
theorem dX10_isDigit_13 : decode cX10_isDigit 13 = .ok (.iaload, 1) := by decide +kernel
theorem dX10_isDigit_14 : decode cX10_isDigit 14 = .ok (.i2l, 1) := by decide +kernel
theorem dX10_isDigit_15 : decode cX10_isDigit 15 = .ok (.ldc2_w 166, 3) := by decide +kernel
theorem dX10_isDigit_18 : decode cX10_isDigit 18 = .ok (.ldc2_w 168, 3) := by decide +kernel
theorem dX10_isDigit_21 : decode cX10_isDigit 21 = .ok (.invokestatic 74, 3) := by decide +kernel
theorem dX10_isDigit_24 : decode cX10_isDigit 24 = .ok (.ifCond .eq 7, 3) := by decide +kernel
theorem dX10_isDigit_27 : decode cX10_isDigit 27 = .ok (.iconst 1, 1) := by decide +kernel
theorem dX10_isDigit_28 : decode cX10_isDigit 28 = .ok (.goto 4, 3) := by decide +kernel
theorem dX10_isDigit_31 : decode cX10_isDigit 31 = .ok (.iconst 0, 1) := by decide +kernel
theorem dX10_isDigit_32 : decode cX10_isDigit 32 = .ok (.ireturn, 1) := by decide +kernel
theorem dX10_goesOn_0 : decode cX10_goesOn 0 = .ok (.aload_n 0, 1) := by decide +kernel
theorem dX10_goesOn_1 : decode cX10_goesOn 1 = .ok (.getfield 170, 3) := by decide +kernel
theorem dX10_goesOn_4 : decode cX10_goesOn 4 = .ok (.ifCond .le 23, 3) := by decide +kernel
theorem dX10_goesOn_7 : decode cX10_goesOn 7 = .ok (.aload_n 0, 1) := by decide +kernel
theorem dX10_goesOn_8 : decode cX10_goesOn 8 = .ok (.getfield 173, 3) := by decide +kernel
theorem dX10_goesOn_11 : decode cX10_goesOn 11 = .ok (.iconst 1, 1) := by decide +kernel
theorem dX10_goesOn_12 : decode cX10_goesOn 12 = .ok (.if_icmp .eq 11, 3) := by decide +kernel
theorem dX10_goesOn_15 : decode cX10_goesOn 15 = .ok (.aload_n 0, 1) := by decide +kernel
theorem dX10_goesOn_16 : decode cX10_goesOn 16 = .ok (.getfield 173, 3) := by decide +kernel
theorem dX10_goesOn_19 : decode cX10_goesOn 19 = .ok (.iconst 2, 1) := by decide +kernel
theorem dX10_goesOn_20 : decode cX10_goesOn 20 = .ok (.if_icmp .ne 7, 3) := by decide +kernel
theorem dX10_goesOn_23 : decode cX10_goesOn 23 = .ok (.iconst 1, 1) := by decide +kernel
theorem dX10_goesOn_24 : decode cX10_goesOn 24 = .ok (.goto 4, 3) := by decide +kernel
theorem dX10_goesOn_27 : decode cX10_goesOn 27 = .ok (.iconst 0, 1) := by decide +kernel
theorem dX10_goesOn_28 : decode cX10_goesOn 28 = .ok (.istore_n 1, 1) := by decide +kernel
theorem dX10_goesOn_29 : decode cX10_goesOn 29 = .ok (.aload_n 0, 1) := by decide +kernel
theorem dX10_goesOn_30 : decode cX10_goesOn 30 = .ok (.getfield 170, 3) := by decide +kernel
theorem dX10_goesOn_33 : decode cX10_goesOn 33 = .ok (.istore_n 2, 1) := by decide +kernel
theorem dX10_goesOn_34 : decode cX10_goesOn 34 = .ok (.aload_n 0, 1) := by decide +kernel
theorem dX10_goesOn_35 : decode cX10_goesOn 35 = .ok (.getfield 170, 3) := by decide +kernel
theorem dX10_goesOn_38 : decode cX10_goesOn 38 = .ok (.aload_n 0, 1) := by decide +kernel
theorem dX10_goesOn_39 : decode cX10_goesOn 39 = .ok (.getfield 158, 3) := by decide +kernel
theorem dX10_goesOn_42 : decode cX10_goesOn 42 = .ok (.if_icmp .ge 30, 3) := by decide +kernel
theorem dX10_goesOn_45 : decode cX10_goesOn 45 = .ok (.aload_n 0, 1) := by decide +kernel
theorem dX10_goesOn_46 : decode cX10_goesOn 46 = .ok (.getfield 43, 3) := by decide +kernel
theorem dX10_goesOn_49 : decode cX10_goesOn 49 = .ok (.aload_n 0, 1) := by decide +kernel
theorem dX10_goesOn_50 : decode cX10_goesOn 50 = .ok (.getfield 170, 3) := by decide +kernel
theorem dX10_goesOn_53 : decode cX10_goesOn 53 = .ok (.iaload, 1) := by decide +kernel
theorem dX10_goesOn_54 : decode cX10_goesOn 54 = .ok (.bipush 32, 2) := by decide +kernel
theorem dX10_goesOn_56 : decode cX10_goesOn 56 = .ok (.if_icmp .ne 16, 3) := by decide +kernel
theorem dX10_goesOn_59 : decode cX10_goesOn 59 = .ok (.aload_n 0, 1) := by decide +kernel
theorem dX10_goesOn_60 : decode cX10_goesOn 60 = .ok (.dup, 1) := by decide +kernel
theorem dX10_goesOn_61 : decode cX10_goesOn 61 = .ok (.getfield 170, 3) := by decide +kernel
theorem dX10_goesOn_64 : decode cX10_goesOn 64 = .ok (.iconst 1, 1) := by decide +kernel
theorem dX10_goesOn_65 : decode cX10_goesOn 65 = .ok (.iadd, 1) := by decide +kernel
theorem dX10_goesOn_66 : decode cX10_goesOn 66 = .ok (.putfield 170, 3) := by decide +kernel
theorem dX10_goesOn_69 : decode cX10_goesOn 69 = .ok (.goto (-35), 3) := by decide +kernel
theorem dX10_goesOn_72 : decode cX10_goesOn 72 = .ok (.iload_n 1, 1) := by decide +kernel
theorem dX10_goesOn_73 : decode cX10_goesOn 73 = .ok (.ifCond .eq 15, 3) := by decide +kernel
theorem dX10_goesOn_76 : decode cX10_goesOn 76 = .ok (.iload_n 2, 1) := by decide +kernel
theorem dX10_goesOn_77 : decode cX10_goesOn 77 = .ok (.aload_n 0, 1) := by decide +kernel
theorem dX10_goesOn_78 : decode cX10_goesOn 78 = .ok (.getfield 170, 3) := by decide +kernel
theorem dX10_goesOn_81 : decode cX10_goesOn 81 = .ok (.if_icmp .ne 7, 3) := by decide +kernel
theorem dX10_goesOn_84 : decode cX10_goesOn 84 = .ok (.iconst 1, 1) := by decide +kernel
theorem dX10_goesOn_85 : decode cX10_goesOn 85 = .ok (.goto 4, 3) := by decide +kernel
theorem dX10_goesOn_88 : decode cX10_goesOn 88 = .ok (.iconst 0, 1) := by decide +kernel
theorem dX10_goesOn_89 : decode cX10_goesOn 89 = .ok (.istore_n 1, 1) := by decide +kernel
theorem dX10_goesOn_90 : decode cX10_goesOn 90 = .ok (.aload_n 0, 1) := by decide +kernel
theorem dX10_goesOn_91 : decode cX10_goesOn 91 = .ok (.aload_n 0, 1) := by decide +kernel
theorem dX10_goesOn_92 : decode cX10_goesOn 92 = .ok (.getfield 170, 3) := by decide +kernel
theorem dX10_goesOn_95 : decode cX10_goesOn 95 = .ok (.putfield 176, 3) := by decide +kernel
theorem dX10_goesOn_98 : decode cX10_goesOn 98 = .ok (.aload_n 0, 1) := by decide +kernel
theorem dX10_goesOn_99 : decode cX10_goesOn 99 = .ok (.getfield 176, 3) := by decide +kernel
theorem dX10_goesOn_102 : decode cX10_goesOn 102 = .ok (.aload_n 0, 1) := by decide +kernel
theorem dX10_goesOn_103 : decode cX10_goesOn 103 = .ok (.getfield 158, 3) := by decide +kernel
theorem dX10_goesOn_106 : decode cX10_goesOn 106 = .ok (.if_icmp .ne 11, 3) := by decide +kernel
theorem dX10_goesOn_109 : decode cX10_goesOn 109 = .ok (.aload_n 0, 1) := by decide +kernel
theorem dX10_goesOn_110 : decode cX10_goesOn 110 = .ok (.iconst 0, 1) := by decide +kernel
theorem dX10_goesOn_111 : decode cX10_goesOn 111 = .ok (.putfield 173, 3) := by decide +kernel
theorem dX10_goesOn_114 : decode cX10_goesOn 114 = .ok (.goto 225, 3) := by decide +kernel
theorem dX10_goesOn_117 : decode cX10_goesOn 117 = .ok (.aload_n 0, 1) := by decide +kernel
theorem dX10_goesOn_118 : decode cX10_goesOn 118 = .ok (.aload_n 0, 1) := by decide +kernel
theorem dX10_goesOn_119 : decode cX10_goesOn 119 = .ok (.getfield 176, 3) := by decide +kernel
theorem dX10_goesOn_122 : decode cX10_goesOn 122 = .ok (.invokevirtual 179, 3) := by decide +kernel
theorem dX10_goesOn_125 : decode cX10_goesOn 125 = .ok (.ifCond .eq 73, 3) := by decide +kernel
theorem dX10_goesOn_128 : decode cX10_goesOn 128 = .ok (.aload_n 0, 1) := by decide +kernel
theorem dX10_goesOn_129 : decode cX10_goesOn 129 = .ok (.aload_n 0, 1) := by decide +kernel
theorem dX10_goesOn_130 : decode cX10_goesOn 130 = .ok (.getfield 170, 3) := by decide +kernel
theorem dX10_goesOn_133 : decode cX10_goesOn 133 = .ok (.invokevirtual 179, 3) := by decide +kernel
theorem dX10_goesOn_136 : decode cX10_goesOn 136 = .ok (.ifCond .eq 16, 3) := by decide +kernel
theorem dX10_goesOn_139 : decode cX10_goesOn 139 = .ok (.aload_n 0, 1) := by decide +kernel
theorem dX10_goesOn_140 : decode cX10_goesOn 140 = .ok (.dup, 1) := by decide +kernel
theorem dX10_goesOn_141 : decode cX10_goesOn 141 = .ok (.getfield 170, 3) := by decide +kernel
theorem dX10_goesOn_144 : decode cX10_goesOn 144 = .ok (.iconst 1, 1) := by decide +kernel
theorem dX10_goesOn_145 : decode cX10_goesOn 145 = .ok (.iadd, 1) := by decide +kernel
theorem dX10_goesOn_146 : decode cX10_goesOn 146 = .ok (.putfield 170, 3) := by decide +kernel
theorem dX10_goesOn_149 : decode cX10_goesOn 149 = .ok (.goto (-21), 3) := by decide +kernel
theorem dX10_goesOn_152 : decode cX10_goesOn 152 = .ok (.aload_n 0, 1) := by decide +kernel
theorem dX10_goesOn_153 : decode cX10_goesOn 153 = .ok (.iload_n 1, 1) := by decide +kernel
theorem dX10_goesOn_154 : decode cX10_goesOn 154 = .ok (.ifCond .eq 7, 3) := by decide +kernel
theorem dX10_goesOn_157 : decode cX10_goesOn 157 = .ok (.iconst 4, 1) := by decide +kernel
theorem dX10_goesOn_158 : decode cX10_goesOn 158 = .ok (.goto 4, 3) := by decide +kernel
theorem dX10_goesOn_161 : decode cX10_goesOn 161 = .ok (.iconst 1, 1) := by decide +kernel
theorem dX10_goesOn_162 : decode cX10_goesOn 162 = .ok (.putfield 173, 3) := by decide +kernel
theorem dX10_goesOn_165 : decode cX10_goesOn 165 = .ok (.aload_n 0, 1) := by decide +kernel
theorem dX10_goesOn_166 : decode cX10_goesOn 166 = .ok (.aload_n 0, 1) := by decide +kernel
theorem dX10_goesOn_167 : decode cX10_goesOn 167 = .ok (.getfield 170, 3) := by decide +kernel
theorem dX10_goesOn_170 : decode cX10_goesOn 170 = .ok (.aload_n 0, 1) := by decide +kernel
theorem dX10_goesOn_171 : decode cX10_goesOn 171 = .ok (.getfield 176, 3) := by decide +kernel
theorem dX10_goesOn_174 : decode cX10_goesOn 174 = .ok (.isub, 1) := by decide +kernel
theorem dX10_goesOn_175 : decode cX10_goesOn 175 = .ok (.iconst 1, 1) := by decide +kernel
theorem dX10_goesOn_176 : decode cX10_goesOn 176 = .ok (.if_icmp .ne 15, 3) := by decide +kernel
theorem dX10_goesOn_179 : decode cX10_goesOn 179 = .ok (.aload_n 0, 1) := by decide +kernel
theorem dX10_goesOn_180 : decode cX10_goesOn 180 = .ok (.getfield 43, 3) := by decide +kernel
theorem dX10_goesOn_183 : decode cX10_goesOn 183 = .ok (.aload_n 0, 1) := by decide +kernel
theorem dX10_goesOn_184 : decode cX10_goesOn 184 = .ok (.getfield 176, 3) := by decide +kernel
theorem dX10_goesOn_187 : decode cX10_goesOn 187 = .ok (.iaload, 1) := by decide +kernel
theorem dX10_goesOn_188 : decode cX10_goesOn 188 = .ok (.goto 4, 3) := by decide +kernel
theorem dX10_goesOn_191 : decode cX10_goesOn 191 = .ok (.iconst 0, 1) := by decide +kernel
theorem dX10_goesOn_192 : decode cX10_goesOn 192 = .ok (.putfield 182, 3) := by decide +kernel
theorem dX10_goesOn_195 : decode cX10_goesOn 195 = .ok (.goto 144, 3) := by decide +kernel
theorem dX10_goesOn_198 : decode cX10_goesOn 198 = .ok (.aload_n 0, 1) := by decide +kernel
theorem dX10_goesOn_199 : decode cX10_goesOn 199 = .ok (.aload_n 0, 1) := by decide +kernel
theorem dX10_goesOn_200 : decode cX10_goesOn 200 = .ok (.getfield 176, 3) := by decide +kernel
theorem dX10_goesOn_203 : decode cX10_goesOn 203 = .ok (.invokevirtual 185, 3) := by decide +kernel
theorem dX10_goesOn_206 : decode cX10_goesOn 206 = .ok (.ifCond .eq 105, 3) := by decide +kernel
theorem dX10_goesOn_209 : decode cX10_goesOn 209 = .ok (.aload_n 0, 1) := by decide +kernel
theorem dX10_goesOn_210 : decode cX10_goesOn 210 = .ok (.iconst 0, 1) := by decide +kernel
theorem dX10_goesOn_211 : decode cX10_goesOn 211 = .ok (.putfield 188, 3) := by decide +kernel
theorem dX10_goesOn_214 : decode cX10_goesOn 214 = .ok (.aload_n 0, 1) := by decide +kernel
theorem dX10_goesOn_215 : decode cX10_goesOn 215 = .ok (.aload_n 0, 1) := by decide +kernel
theorem dX10_goesOn_216 : decode cX10_goesOn 216 = .ok (.getfield 170, 3) := by decide +kernel
theorem dX10_goesOn_219 : decode cX10_goesOn 219 = .ok (.invokevirtual 185, 3) := by decide +kernel
theorem dX10_goesOn_222 : decode cX10_goesOn 222 = .ok (.ifCond .eq 60, 3) := by decide +kernel
theorem dX10_goesOn_225 : decode cX10_goesOn 225 = .ok (.aload_n 0, 1) := by decide +kernel
theorem dX10_goesOn_226 : decode cX10_goesOn 226 = .ok (.aload_n 0, 1) := by decide +kernel
theorem dX10_goesOn_227 : decode cX10_goesOn 227 = .ok (.getfield 170, 3) := by decide +kernel
theorem dX10_goesOn_230 : decode cX10_goesOn 230 = .ok (.aload_n 0, 1) := by decide +kernel
theorem dX10_goesOn_231 : decode cX10_goesOn 231 = .ok (.getfield 176, 3) := by decide +kernel
theorem dX10_goesOn_234 : decode cX10_goesOn 234 = .ok (.isub, 1) := by decide +kernel
theorem dX10_goesOn_235 : decode cX10_goesOn 235 = .ok (.iconst 4, 1) := by decide +kernel
theorem dX10_goesOn_236 : decode cX10_goesOn 236 = .ok (.if_icmp .ge 26, 3) := by decide +kernel
theorem dX10_goesOn_239 : decode cX10_goesOn 239 = .ok (.bipush 10, 2) := by decide +kernel
theorem dX10_goesOn_241 : decode cX10_goesOn 241 = .ok (.aload_n 0, 1) := by decide +kernel
theorem dX10_goesOn_242 : decode cX10_goesOn 242 = .ok (.getfield 188, 3) := by decide +kernel
theorem dX10_goesOn_245 : decode cX10_goesOn 245 = .ok (.imul, 1) := by decide +kernel
theorem dX10_goesOn_246 : decode cX10_goesOn 246 = .ok (.aload_n 0, 1) := by decide +kernel
theorem dX10_goesOn_247 : decode cX10_goesOn 247 = .ok (.getfield 43, 3) := by decide +kernel
theorem dX10_goesOn_250 : decode cX10_goesOn 250 = .ok (.aload_n 0, 1) := by decide +kernel
theorem dX10_goesOn_251 : decode cX10_goesOn 251 = .ok (.getfield 170, 3) := by decide +kernel
theorem dX10_goesOn_254 : decode cX10_goesOn 254 = .ok (.iaload, 1) := by decide +kernel
theorem dX10_goesOn_255 : decode cX10_goesOn 255 = .ok (.iadd, 1) := by decide +kernel
theorem dX10_goesOn_256 : decode cX10_goesOn 256 = .ok (.bipush 48, 2) := by decide +kernel
theorem dX10_goesOn_258 : decode cX10_goesOn 258 = .ok (.isub, 1) := by decide +kernel
theorem dX10_goesOn_259 : decode cX10_goesOn 259 = .ok (.goto 7, 3) := by decide +kernel
theorem dX10_goesOn_262 : decode cX10_goesOn 262 = .ok (.aload_n 0, 1) := by decide +kernel
theorem dX10_goesOn_263 : decode cX10_goesOn 263 = .ok (.getfield 188, 3) := by decide +kernel
theorem dX10_goesOn_266 : decode cX10_goesOn 266 = .ok (.putfield 188, 3) := by decide +kernel
theorem dX10_goesOn_269 : decode cX10_goesOn 269 = .ok (.aload_n 0, 1) := by decide +kernel
theorem dX10_goesOn_270 : decode cX10_goesOn 270 = .ok (.dup, 1) := by decide +kernel
theorem dX10_goesOn_271 : decode cX10_goesOn 271 = .ok (.getfield 170, 3) := by decide +kernel
theorem dX10_goesOn_274 : decode cX10_goesOn 274 = .ok (.iconst 1, 1) := by decide +kernel
theorem dX10_goesOn_275 : decode cX10_goesOn 275 = .ok (.iadd, 1) := by decide +kernel
theorem dX10_goesOn_276 : decode cX10_goesOn 276 = .ok (.putfield 170, 3) := by decide +kernel
theorem dX10_goesOn_279 : decode cX10_goesOn 279 = .ok (.goto (-65), 3) := by decide +kernel
theorem dX10_goesOn_282 : decode cX10_goesOn 282 = .ok (.aload_n 0, 1) := by decide +kernel
theorem dX10_goesOn_283 : decode cX10_goesOn 283 = .ok (.iload_n 1, 1) := by decide +kernel
theorem dX10_goesOn_284 : decode cX10_goesOn 284 = .ok (.ifCond .ne 16, 3) := by decide +kernel
theorem dX10_goesOn_287 : decode cX10_goesOn 287 = .ok (.aload_n 0, 1) := by decide +kernel
theorem dX10_goesOn_288 : decode cX10_goesOn 288 = .ok (.getfield 170, 3) := by decide +kernel
theorem dX10_goesOn_291 : decode cX10_goesOn 291 = .ok (.aload_n 0, 1) := by decide +kernel
theorem dX10_goesOn_292 : decode cX10_goesOn 292 = .ok (.getfield 176, 3) := by decide +kernel
theorem dX10_goesOn_295 : decode cX10_goesOn 295 = .ok (.isub, 1) := by decide +kernel
theorem dX10_goesOn_296 : decode cX10_goesOn 296 = .ok (.iconst 4, 1) := by decide +kernel
theorem dX10_goesOn_297 : decode cX10_goesOn 297 = .ok (.if_icmp .le 7, 3) := by decide +kernel
theorem dX10_goesOn_300 : decode cX10_goesOn 300 = .ok (.iconst 4, 1) := by decide +kernel
theorem dX10_goesOn_301 : decode cX10_goesOn 301 = .ok (.goto 4, 3) := by decide +kernel
theorem dX10_goesOn_304 : decode cX10_goesOn 304 = .ok (.iconst 2, 1) := by decide +kernel
theorem dX10_goesOn_305 : decode cX10_goesOn 305 = .ok (.putfield 173, 3) := by decide +kernel
theorem dX10_goesOn_308 : decode cX10_goesOn 308 = .ok (.goto 31, 3) := by decide +kernel
theorem dX10_goesOn_311 : decode cX10_goesOn 311 = .ok (.aload_n 0, 1) := by decide +kernel
theorem dX10_goesOn_312 : decode cX10_goesOn 312 = .ok (.iconst 3, 1) := by decide +kernel
theorem dX10_goesOn_313 : decode cX10_goesOn 313 = .ok (.putfield 173, 3) := by decide +kernel
theorem dX10_goesOn_316 : decode cX10_goesOn 316 = .ok (.aload_n 0, 1) := by decide +kernel
theorem dX10_goesOn_317 : decode cX10_goesOn 317 = .ok (.aload_n 0, 1) := by decide +kernel
theorem dX10_goesOn_318 : decode cX10_goesOn 318 = .ok (.getfield 43, 3) := by decide +kernel
theorem dX10_goesOn_321 : decode cX10_goesOn 321 = .ok (.aload_n 0, 1) := by decide +kernel
theorem dX10_goesOn_322 : decode cX10_goesOn 322 = .ok (.getfield 176, 3) := by decide +kernel
theorem dX10_goesOn_325 : decode cX10_goesOn 325 = .ok (.iaload, 1) := by decide +kernel
theorem dX10_goesOn_326 : decode cX10_goesOn 326 = .ok (.putfield 182, 3) := by decide +kernel
theorem dX10_goesOn_329 : decode cX10_goesOn 329 = .ok (.aload_n 0, 1) := by decide +kernel
theorem dX10_goesOn_330 : decode cX10_goesOn 330 = .ok (.dup, 1) := by decide +kernel
theorem dX10_goesOn_331 : decode cX10_goesOn 331 = .ok (.getfield 170, 3) := by decide +kernel
theorem dX10_goesOn_334 : decode cX10_goesOn 334 = .ok (.iconst 1, 1) := by decide +kernel
theorem dX10_goesOn_335 : decode cX10_goesOn 335 = .ok (.iadd, 1) := by decide +kernel
theorem dX10_goesOn_336 : decode cX10_goesOn 336 = .ok (.putfield 170, 3) := by decide +kernel
theorem dX10_goesOn_339 : decode cX10_goesOn 339 = .ok (.return_, 1) := by decide +kernel
theorem dX10_isSign_0 : decode cX10_isSign 0 = .ok (.aload_n 0, 1) := by decide +kernel
theorem dX10_isSign_1 : decode cX10_isSign 1 = .ok (.getfield 173, 3) := by decide +kernel
theorem dX10_isSign_4 : decode cX10_isSign 4 = .ok (.iconst 3, 1) := by decide +kernel
theorem dX10_isSign_5 : decode cX10_isSign 5 = .ok (.if_icmp .ne 15, 3) := by decide +kernel
theorem dX10_isSign_8 : decode cX10_isSign 8 = .ok (.aload_n 0, 1) := by decide +kernel
theorem dX10_isSign_9 : decode cX10_isSign 9 = .ok (.getfield 182, 3) := by decide +kernel
theorem dX10_isSign_12 : decode cX10_isSign 12 = .ok (.iload_n 1, 1) := by decide +kernel
theorem dX10_isSign_13 : decode cX10_isSign 13 = .ok (.if_icmp .ne 7, 3) := by decide +kernel
theorem dX10_isSign_16 : decode cX10_isSign 16 = .ok (.iconst 1, 1) := by decide +kernel
theorem dX10_isSign_17 : decode cX10_isSign 17 = .ok (.goto 4, 3) := by decide +kernel
theorem dX10_isSign_20 : decode cX10_isSign 20 = .ok (.iconst 0, 1) := by decide +kernel
theorem dX10_isSign_21 : decode cX10_isSign 21 = .ok (.ireturn, 1) := by decide +kernel
theorem dX10_isWordAt_0 : decode cX10_isWordAt 0 = .ok (.iload 4, 2) := by decide +kernel
theorem dX10_isWordAt_2 : decode cX10_isWordAt 2 = .ok (.ifCond .ne 7, 3) := by decide +kernel
theorem dX10_isWordAt_5 : decode cX10_isWordAt 5 = .ok (.iconst 3, 1) := by decide +kernel
theorem dX10_isWordAt_6 : decode cX10_isWordAt 6 = .ok (.goto 4, 3) := by decide +kernel
theorem dX10_isWordAt_9 : decode cX10_isWordAt 9 = .ok (.iconst 4, 1) := by decide +kernel
theorem dX10_isWordAt_10 : decode cX10_isWordAt 10 = .ok (.istore 5, 2) := by decide +kernel
theorem dX10_isWordAt_12 : decode cX10_isWordAt 12 = .ok (.aload_n 0, 1) := by decide +kernel
theorem dX10_isWordAt_13 : decode cX10_isWordAt 13 = .ok (.getfield 173, 3) := by decide +kernel
theorem dX10_isWordAt_16 : decode cX10_isWordAt 16 = .ok (.iconst 1, 1) := by decide +kernel
theorem dX10_isWordAt_17 : decode cX10_isWordAt 17 = .ok (.if_icmp .ne 85, 3) := by decide +kernel
theorem dX10_isWordAt_20 : decode cX10_isWordAt 20 = .ok (.aload_n 0, 1) := by decide +kernel
theorem dX10_isWordAt_21 : decode cX10_isWordAt 21 = .ok (.getfield 170, 3) := by decide +kernel
theorem dX10_isWordAt_24 : decode cX10_isWordAt 24 = .ok (.aload_n 0, 1) := by decide +kernel
theorem dX10_isWordAt_25 : decode cX10_isWordAt 25 = .ok (.getfield 176, 3) := by decide +kernel
theorem dX10_isWordAt_28 : decode cX10_isWordAt 28 = .ok (.isub, 1) := by decide +kernel
theorem dX10_isWordAt_29 : decode cX10_isWordAt 29 = .ok (.iload 5, 2) := by decide +kernel
theorem dX10_isWordAt_31 : decode cX10_isWordAt 31 = .ok (.if_icmp .ne 71, 3) := by decide +kernel
theorem dX10_isWordAt_34 : decode cX10_isWordAt 34 = .ok (.aload_n 0, 1) := by decide +kernel
theorem dX10_isWordAt_35 : decode cX10_isWordAt 35 = .ok (.getfield 43, 3) := by decide +kernel
theorem dX10_isWordAt_38 : decode cX10_isWordAt 38 = .ok (.aload_n 0, 1) := by decide +kernel
theorem dX10_isWordAt_39 : decode cX10_isWordAt 39 = .ok (.getfield 176, 3) := by decide +kernel
theorem dX10_isWordAt_42 : decode cX10_isWordAt 42 = .ok (.iaload, 1) := by decide +kernel
theorem dX10_isWordAt_43 : decode cX10_isWordAt 43 = .ok (.iload_n 1, 1) := by decide +kernel
theorem dX10_isWordAt_44 : decode cX10_isWordAt 44 = .ok (.if_icmp .ne 58, 3) := by decide +kernel
theorem dX10_isWordAt_47 : decode cX10_isWordAt 47 = .ok (.aload_n 0, 1) := by decide +kernel
theorem dX10_isWordAt_48 : decode cX10_isWordAt 48 = .ok (.getfield 43, 3) := by decide +kernel
theorem dX10_isWordAt_51 : decode cX10_isWordAt 51 = .ok (.aload_n 0, 1) := by decide +kernel
theorem dX10_isWordAt_52 : decode cX10_isWordAt 52 = .ok (.getfield 176, 3) := by decide +kernel
theorem dX10_isWordAt_55 : decode cX10_isWordAt 55 = .ok (.iconst 1, 1) := by decide +kernel
theorem dX10_isWordAt_56 : decode cX10_isWordAt 56 = .ok (.iadd, 1) := by decide +kernel
theorem dX10_isWordAt_57 : decode cX10_isWordAt 57 = .ok (.iaload, 1) := by decide +kernel
theorem dX10_isWordAt_58 : decode cX10_isWordAt 58 = .ok (.iload_n 2, 1) := by decide +kernel
theorem dX10_isWordAt_59 : decode cX10_isWordAt 59 = .ok (.if_icmp .ne 43, 3) := by decide +kernel
theorem dX10_isWordAt_62 : decode cX10_isWordAt 62 = .ok (.aload_n 0, 1) := by decide +kernel
theorem dX10_isWordAt_63 : decode cX10_isWordAt 63 = .ok (.getfield 43, 3) := by decide +kernel
theorem dX10_isWordAt_66 : decode cX10_isWordAt 66 = .ok (.aload_n 0, 1) := by decide +kernel
theorem dX10_isWordAt_67 : decode cX10_isWordAt 67 = .ok (.getfield 176, 3) := by decide +kernel
theorem dX10_isWordAt_70 : decode cX10_isWordAt 70 = .ok (.iconst 2, 1) := by decide +kernel
theorem dX10_isWordAt_71 : decode cX10_isWordAt 71 = .ok (.iadd, 1) := by decide +kernel
theorem dX10_isWordAt_72 : decode cX10_isWordAt 72 = .ok (.iaload, 1) := by decide +kernel
theorem dX10_isWordAt_73 : decode cX10_isWordAt 73 = .ok (.iload_n 3, 1) := by decide +kernel
theorem dX10_isWordAt_74 : decode cX10_isWordAt 74 = .ok (.if_icmp .ne 28, 3) := by decide +kernel
theorem dX10_isWordAt_77 : decode cX10_isWordAt 77 = .ok (.iload 4, 2) := by decide +kernel
theorem dX10_isWordAt_79 : decode cX10_isWordAt 79 = .ok (.ifCond .eq 19, 3) := by decide +kernel
theorem dX10_isWordAt_82 : decode cX10_isWordAt 82 = .ok (.aload_n 0, 1) := by decide +kernel
theorem dX10_isWordAt_83 : decode cX10_isWordAt 83 = .ok (.getfield 43, 3) := by decide +kernel
theorem dX10_isWordAt_86 : decode cX10_isWordAt 86 = .ok (.aload_n 0, 1) := by decide +kernel
theorem dX10_isWordAt_87 : decode cX10_isWordAt 87 = .ok (.getfield 176, 3) := by decide +kernel
theorem dX10_isWordAt_90 : decode cX10_isWordAt 90 = .ok (.iconst 3, 1) := by decide +kernel
theorem dX10_isWordAt_91 : decode cX10_isWordAt 91 = .ok (.iadd, 1) := by decide +kernel
theorem dX10_isWordAt_92 : decode cX10_isWordAt 92 = .ok (.iaload, 1) := by decide +kernel
theorem dX10_isWordAt_93 : decode cX10_isWordAt 93 = .ok (.iload 4, 2) := by decide +kernel
theorem dX10_isWordAt_95 : decode cX10_isWordAt 95 = .ok (.if_icmp .ne 7, 3) := by decide +kernel
theorem dX10_isWordAt_98 : decode cX10_isWordAt 98 = .ok (.iconst 1, 1) := by decide +kernel
theorem dX10_isWordAt_99 : decode cX10_isWordAt 99 = .ok (.goto 4, 3) := by decide +kernel
theorem dX10_isWordAt_102 : decode cX10_isWordAt 102 = .ok (.iconst 0, 1) := by decide +kernel
theorem dX10_isWordAt_103 : decode cX10_isWordAt 103 = .ok (.ireturn, 1) := by decide +kernel
theorem dX10_isLong_0 : decode cX10_isLong 0 = .ok (.iload 6, 2) := by decide +kernel
theorem dX10_isLong_2 : decode cX10_isLong 2 = .ok (.ifCond .ne 7, 3) := by decide +kernel
theorem dX10_isLong_5 : decode cX10_isLong 5 = .ok (.iconst 5, 1) := by decide +kernel
theorem dX10_isLong_6 : decode cX10_isLong 6 = .ok (.goto 5, 3) := by decide +kernel
theorem dX10_isLong_9 : decode cX10_isLong 9 = .ok (.bipush 6, 2) := by decide +kernel
theorem dX10_isLong_11 : decode cX10_isLong 11 = .ok (.istore 7, 2) := by decide +kernel
theorem dX10_isLong_13 : decode cX10_isLong 13 = .ok (.aload_n 0, 1) := by decide +kernel
theorem dX10_isLong_14 : decode cX10_isLong 14 = .ok (.getfield 173, 3) := by decide +kernel
theorem dX10_isLong_17 : decode cX10_isLong 17 = .ok (.iconst 1, 1) := by decide +kernel
theorem dX10_isLong_18 : decode cX10_isLong 18 = .ok (.if_icmp .ne 117, 3) := by decide +kernel
theorem dX10_isLong_21 : decode cX10_isLong 21 = .ok (.aload_n 0, 1) := by decide +kernel
theorem dX10_isLong_22 : decode cX10_isLong 22 = .ok (.getfield 170, 3) := by decide +kernel
theorem dX10_isLong_25 : decode cX10_isLong 25 = .ok (.aload_n 0, 1) := by decide +kernel
theorem dX10_isLong_26 : decode cX10_isLong 26 = .ok (.getfield 176, 3) := by decide +kernel
theorem dX10_isLong_29 : decode cX10_isLong 29 = .ok (.isub, 1) := by decide +kernel
theorem dX10_isLong_30 : decode cX10_isLong 30 = .ok (.iload 7, 2) := by decide +kernel
theorem dX10_isLong_32 : decode cX10_isLong 32 = .ok (.if_icmp .ne 103, 3) := by decide +kernel
theorem dX10_isLong_35 : decode cX10_isLong 35 = .ok (.aload_n 0, 1) := by decide +kernel
theorem dX10_isLong_36 : decode cX10_isLong 36 = .ok (.getfield 43, 3) := by decide +kernel
theorem dX10_isLong_39 : decode cX10_isLong 39 = .ok (.aload_n 0, 1) := by decide +kernel
theorem dX10_isLong_40 : decode cX10_isLong 40 = .ok (.getfield 176, 3) := by decide +kernel
theorem dX10_isLong_43 : decode cX10_isLong 43 = .ok (.iaload, 1) := by decide +kernel
theorem dX10_isLong_44 : decode cX10_isLong 44 = .ok (.iload_n 1, 1) := by decide +kernel
theorem dX10_isLong_45 : decode cX10_isLong 45 = .ok (.if_icmp .ne 90, 3) := by decide +kernel
theorem dX10_isLong_48 : decode cX10_isLong 48 = .ok (.aload_n 0, 1) := by decide +kernel
theorem dX10_isLong_49 : decode cX10_isLong 49 = .ok (.getfield 43, 3) := by decide +kernel
theorem dX10_isLong_52 : decode cX10_isLong 52 = .ok (.aload_n 0, 1) := by decide +kernel
theorem dX10_isLong_53 : decode cX10_isLong 53 = .ok (.getfield 176, 3) := by decide +kernel
theorem dX10_isLong_56 : decode cX10_isLong 56 = .ok (.iconst 1, 1) := by decide +kernel
theorem dX10_isLong_57 : decode cX10_isLong 57 = .ok (.iadd, 1) := by decide +kernel
theorem dX10_isLong_58 : decode cX10_isLong 58 = .ok (.iaload, 1) := by decide +kernel
theorem dX10_isLong_59 : decode cX10_isLong 59 = .ok (.iload_n 2, 1) := by decide +kernel
theorem dX10_isLong_60 : decode cX10_isLong 60 = .ok (.if_icmp .ne 75, 3) := by decide +kernel
theorem dX10_isLong_63 : decode cX10_isLong 63 = .ok (.aload_n 0, 1) := by decide +kernel
theorem dX10_isLong_64 : decode cX10_isLong 64 = .ok (.getfield 43, 3) := by decide +kernel
theorem dX10_isLong_67 : decode cX10_isLong 67 = .ok (.aload_n 0, 1) := by decide +kernel
theorem dX10_isLong_68 : decode cX10_isLong 68 = .ok (.getfield 176, 3) := by decide +kernel
theorem dX10_isLong_71 : decode cX10_isLong 71 = .ok (.iconst 2, 1) := by decide +kernel
theorem dX10_isLong_72 : decode cX10_isLong 72 = .ok (.iadd, 1) := by decide +kernel
theorem dX10_isLong_73 : decode cX10_isLong 73 = .ok (.iaload, 1) := by decide +kernel
theorem dX10_isLong_74 : decode cX10_isLong 74 = .ok (.iload_n 3, 1) := by decide +kernel
theorem dX10_isLong_75 : decode cX10_isLong 75 = .ok (.if_icmp .ne 60, 3) := by decide +kernel
theorem dX10_isLong_78 : decode cX10_isLong 78 = .ok (.aload_n 0, 1) := by decide +kernel
theorem dX10_isLong_79 : decode cX10_isLong 79 = .ok (.getfield 43, 3) := by decide +kernel
theorem dX10_isLong_82 : decode cX10_isLong 82 = .ok (.aload_n 0, 1) := by decide +kernel
theorem dX10_isLong_83 : decode cX10_isLong 83 = .ok (.getfield 176, 3) := by decide +kernel
theorem dX10_isLong_86 : decode cX10_isLong 86 = .ok (.iconst 3, 1) := by decide +kernel
theorem dX10_isLong_87 : decode cX10_isLong 87 = .ok (.iadd, 1) := by decide +kernel
theorem dX10_isLong_88 : decode cX10_isLong 88 = .ok (.iaload, 1) := by decide +kernel
theorem dX10_isLong_89 : decode cX10_isLong 89 = .ok (.iload 4, 2) := by decide +kernel
theorem dX10_isLong_91 : decode cX10_isLong 91 = .ok (.if_icmp .ne 44, 3) := by decide +kernel
theorem dX10_isLong_94 : decode cX10_isLong 94 = .ok (.aload_n 0, 1) := by decide +kernel
theorem dX10_isLong_95 : decode cX10_isLong 95 = .ok (.getfield 43, 3) := by decide +kernel
theorem dX10_isLong_98 : decode cX10_isLong 98 = .ok (.aload_n 0, 1) := by decide +kernel
theorem dX10_isLong_99 : decode cX10_isLong 99 = .ok (.getfield 176, 3) := by decide +kernel
theorem dX10_isLong_102 : decode cX10_isLong 102 = .ok (.iconst 4, 1) := by decide +kernel
theorem dX10_isLong_103 : decode cX10_isLong 103 = .ok (.iadd, 1) := by decide +kernel
theorem dX10_isLong_104 : decode cX10_isLong 104 = .ok (.iaload, 1) := by decide +kernel
theorem dX10_isLong_105 : decode cX10_isLong 105 = .ok (.iload 5, 2) := by decide +kernel
theorem dX10_isLong_107 : decode cX10_isLong 107 = .ok (.if_icmp .ne 28, 3) := by decide +kernel
theorem dX10_isLong_110 : decode cX10_isLong 110 = .ok (.iload 6, 2) := by decide +kernel
theorem dX10_isLong_112 : decode cX10_isLong 112 = .ok (.ifCond .eq 19, 3) := by decide +kernel
theorem dX10_isLong_115 : decode cX10_isLong 115 = .ok (.aload_n 0, 1) := by decide +kernel
theorem dX10_isLong_116 : decode cX10_isLong 116 = .ok (.getfield 43, 3) := by decide +kernel
theorem dX10_isLong_119 : decode cX10_isLong 119 = .ok (.aload_n 0, 1) := by decide +kernel
theorem dX10_isLong_120 : decode cX10_isLong 120 = .ok (.getfield 176, 3) := by decide +kernel
theorem dX10_isLong_123 : decode cX10_isLong 123 = .ok (.iconst 5, 1) := by decide +kernel
theorem dX10_isLong_124 : decode cX10_isLong 124 = .ok (.iadd, 1) := by decide +kernel
theorem dX10_isLong_125 : decode cX10_isLong 125 = .ok (.iaload, 1) := by decide +kernel
theorem dX10_isLong_126 : decode cX10_isLong 126 = .ok (.iload 6, 2) := by decide +kernel
theorem dX10_isLong_128 : decode cX10_isLong 128 = .ok (.if_icmp .ne 7, 3) := by decide +kernel
theorem dX10_isLong_131 : decode cX10_isLong 131 = .ok (.iconst 1, 1) := by decide +kernel
theorem dX10_isLong_132 : decode cX10_isLong 132 = .ok (.goto 4, 3) := by decide +kernel
theorem dX10_isLong_135 : decode cX10_isLong 135 = .ok (.iconst 0, 1) := by decide +kernel
theorem dX10_isLong_136 : decode cX10_isLong 136 = .ok (.ireturn, 1) := by decide +kernel
theorem dX10_isWorking_0 : decode cX10_isWorking 0 = .ok (.aload_n 0, 1) := by decide +kernel
theorem dX10_isWorking_1 : decode cX10_isWorking 1 = .ok (.getfield 173, 3) := by decide +kernel
theorem dX10_isWorking_4 : decode cX10_isWorking 4 = .ok (.iconst 1, 1) := by decide +kernel
theorem dX10_isWorking_5 : decode cX10_isWorking 5 = .ok (.if_icmp .ne 67, 3) := by decide +kernel
theorem dX10_isWorking_8 : decode cX10_isWorking 8 = .ok (.aload_n 0, 1) := by decide +kernel
theorem dX10_isWorking_9 : decode cX10_isWorking 9 = .ok (.getfield 170, 3) := by decide +kernel
theorem dX10_isWorking_12 : decode cX10_isWorking 12 = .ok (.aload_n 0, 1) := by decide +kernel
theorem dX10_isWorking_13 : decode cX10_isWorking 13 = .ok (.getfield 176, 3) := by decide +kernel
theorem dX10_isWorking_16 : decode cX10_isWorking 16 = .ok (.isub, 1) := by decide +kernel
theorem dX10_isWorking_17 : decode cX10_isWorking 17 = .ok (.bipush 7, 2) := by decide +kernel
theorem dX10_isWorking_19 : decode cX10_isWorking 19 = .ok (.if_icmp .ne 53, 3) := by decide +kernel
theorem dX10_isWorking_22 : decode cX10_isWorking 22 = .ok (.aload_n 0, 1) := by decide +kernel
theorem dX10_isWorking_23 : decode cX10_isWorking 23 = .ok (.getfield 43, 3) := by decide +kernel
theorem dX10_isWorking_26 : decode cX10_isWorking 26 = .ok (.aload_n 0, 1) := by decide +kernel
theorem dX10_isWorking_27 : decode cX10_isWorking 27 = .ok (.getfield 176, 3) := by decide +kernel
theorem dX10_isWorking_30 : decode cX10_isWorking 30 = .ok (.iaload, 1) := by decide +kernel
theorem dX10_isWorking_31 : decode cX10_isWorking 31 = .ok (.bipush 119, 2) := by decide +kernel
theorem dX10_isWorking_33 : decode cX10_isWorking 33 = .ok (.if_icmp .ne 39, 3) := by decide +kernel
theorem dX10_isWorking_36 : decode cX10_isWorking 36 = .ok (.aload_n 0, 1) := by decide +kernel
theorem dX10_isWorking_37 : decode cX10_isWorking 37 = .ok (.getfield 43, 3) := by decide +kernel
theorem dX10_isWorking_40 : decode cX10_isWorking 40 = .ok (.aload_n 0, 1) := by decide +kernel
theorem dX10_isWorking_41 : decode cX10_isWorking 41 = .ok (.getfield 176, 3) := by decide +kernel
theorem dX10_isWorking_44 : decode cX10_isWorking 44 = .ok (.iconst 1, 1) := by decide +kernel
theorem dX10_isWorking_45 : decode cX10_isWorking 45 = .ok (.iadd, 1) := by decide +kernel
theorem dX10_isWorking_46 : decode cX10_isWorking 46 = .ok (.iaload, 1) := by decide +kernel
theorem dX10_isWorking_47 : decode cX10_isWorking 47 = .ok (.bipush 111, 2) := by decide +kernel
theorem dX10_isWorking_49 : decode cX10_isWorking 49 = .ok (.if_icmp .ne 23, 3) := by decide +kernel
theorem dX10_isWorking_52 : decode cX10_isWorking 52 = .ok (.aload_n 0, 1) := by decide +kernel
theorem dX10_isWorking_53 : decode cX10_isWorking 53 = .ok (.getfield 43, 3) := by decide +kernel
theorem dX10_isWorking_56 : decode cX10_isWorking 56 = .ok (.aload_n 0, 1) := by decide +kernel
theorem dX10_isWorking_57 : decode cX10_isWorking 57 = .ok (.getfield 176, 3) := by decide +kernel
theorem dX10_isWorking_60 : decode cX10_isWorking 60 = .ok (.iconst 2, 1) := by decide +kernel
theorem dX10_isWorking_61 : decode cX10_isWorking 61 = .ok (.iadd, 1) := by decide +kernel
theorem dX10_isWorking_62 : decode cX10_isWorking 62 = .ok (.iaload, 1) := by decide +kernel
theorem dX10_isWorking_63 : decode cX10_isWorking 63 = .ok (.bipush 114, 2) := by decide +kernel
theorem dX10_isWorking_65 : decode cX10_isWorking 65 = .ok (.if_icmp .ne 7, 3) := by decide +kernel
theorem dX10_isWorking_68 : decode cX10_isWorking 68 = .ok (.iconst 1, 1) := by decide +kernel
theorem dX10_isWorking_69 : decode cX10_isWorking 69 = .ok (.goto 4, 3) := by decide +kernel
theorem dX10_isWorking_72 : decode cX10_isWorking 72 = .ok (.iconst 0, 1) := by decide +kernel
theorem dX10_isWorking_73 : decode cX10_isWorking 73 = .ok (.istore_n 1, 1) := by decide +kernel
theorem dX10_isWorking_74 : decode cX10_isWorking 74 = .ok (.iload_n 1, 1) := by decide +kernel
theorem dX10_isWorking_75 : decode cX10_isWorking 75 = .ok (.ifCond .eq 72, 3) := by decide +kernel
theorem dX10_isWorking_78 : decode cX10_isWorking 78 = .ok (.aload_n 0, 1) := by decide +kernel
theorem dX10_isWorking_79 : decode cX10_isWorking 79 = .ok (.getfield 43, 3) := by decide +kernel
theorem dX10_isWorking_82 : decode cX10_isWorking 82 = .ok (.aload_n 0, 1) := by decide +kernel
theorem dX10_isWorking_83 : decode cX10_isWorking 83 = .ok (.getfield 176, 3) := by decide +kernel
theorem dX10_isWorking_86 : decode cX10_isWorking 86 = .ok (.iconst 3, 1) := by decide +kernel
theorem dX10_isWorking_87 : decode cX10_isWorking 87 = .ok (.iadd, 1) := by decide +kernel
theorem dX10_isWorking_88 : decode cX10_isWorking 88 = .ok (.iaload, 1) := by decide +kernel
theorem dX10_isWorking_89 : decode cX10_isWorking 89 = .ok (.bipush 107, 2) := by decide +kernel
theorem dX10_isWorking_91 : decode cX10_isWorking 91 = .ok (.if_icmp .ne 56, 3) := by decide +kernel
theorem dX10_isWorking_94 : decode cX10_isWorking 94 = .ok (.aload_n 0, 1) := by decide +kernel
theorem dX10_isWorking_95 : decode cX10_isWorking 95 = .ok (.getfield 43, 3) := by decide +kernel
theorem dX10_isWorking_98 : decode cX10_isWorking 98 = .ok (.aload_n 0, 1) := by decide +kernel
theorem dX10_isWorking_99 : decode cX10_isWorking 99 = .ok (.getfield 176, 3) := by decide +kernel
theorem dX10_isWorking_102 : decode cX10_isWorking 102 = .ok (.iconst 4, 1) := by decide +kernel
theorem dX10_isWorking_103 : decode cX10_isWorking 103 = .ok (.iadd, 1) := by decide +kernel
theorem dX10_isWorking_104 : decode cX10_isWorking 104 = .ok (.iaload, 1) := by decide +kernel
theorem dX10_isWorking_105 : decode cX10_isWorking 105 = .ok (.bipush 105, 2) := by decide +kernel
theorem dX10_isWorking_107 : decode cX10_isWorking 107 = .ok (.if_icmp .ne 40, 3) := by decide +kernel
theorem dX10_isWorking_110 : decode cX10_isWorking 110 = .ok (.aload_n 0, 1) := by decide +kernel
theorem dX10_isWorking_111 : decode cX10_isWorking 111 = .ok (.getfield 43, 3) := by decide +kernel
theorem dX10_isWorking_114 : decode cX10_isWorking 114 = .ok (.aload_n 0, 1) := by decide +kernel
theorem dX10_isWorking_115 : decode cX10_isWorking 115 = .ok (.getfield 176, 3) := by decide +kernel
theorem dX10_isWorking_118 : decode cX10_isWorking 118 = .ok (.iconst 5, 1) := by decide +kernel
theorem dX10_isWorking_119 : decode cX10_isWorking 119 = .ok (.iadd, 1) := by decide +kernel
theorem dX10_isWorking_120 : decode cX10_isWorking 120 = .ok (.iaload, 1) := by decide +kernel
theorem dX10_isWorking_121 : decode cX10_isWorking 121 = .ok (.bipush 110, 2) := by decide +kernel
theorem dX10_isWorking_123 : decode cX10_isWorking 123 = .ok (.if_icmp .ne 24, 3) := by decide +kernel
theorem dX10_isWorking_126 : decode cX10_isWorking 126 = .ok (.aload_n 0, 1) := by decide +kernel
theorem dX10_isWorking_127 : decode cX10_isWorking 127 = .ok (.getfield 43, 3) := by decide +kernel
theorem dX10_isWorking_130 : decode cX10_isWorking 130 = .ok (.aload_n 0, 1) := by decide +kernel
theorem dX10_isWorking_131 : decode cX10_isWorking 131 = .ok (.getfield 176, 3) := by decide +kernel
theorem dX10_isWorking_134 : decode cX10_isWorking 134 = .ok (.bipush 6, 2) := by decide +kernel
theorem dX10_isWorking_136 : decode cX10_isWorking 136 = .ok (.iadd, 1) := by decide +kernel
theorem dX10_isWorking_137 : decode cX10_isWorking 137 = .ok (.iaload, 1) := by decide +kernel
theorem dX10_isWorking_138 : decode cX10_isWorking 138 = .ok (.bipush 103, 2) := by decide +kernel
theorem dX10_isWorking_140 : decode cX10_isWorking 140 = .ok (.if_icmp .ne 7, 3) := by decide +kernel
theorem dX10_isWorking_143 : decode cX10_isWorking 143 = .ok (.iconst 1, 1) := by decide +kernel
theorem dX10_isWorking_144 : decode cX10_isWorking 144 = .ok (.goto 4, 3) := by decide +kernel
theorem dX10_isWorking_147 : decode cX10_isWorking 147 = .ok (.iconst 0, 1) := by decide +kernel
theorem dX10_isWorking_148 : decode cX10_isWorking 148 = .ok (.ireturn, 1) := by decide +kernel
theorem dX10_key_0 : decode cX10_key 0 = .ok (.aload_n 0, 1) := by decide +kernel
theorem dX10_key_1 : decode cX10_key 1 = .ok (.bipush 115, 2) := by decide +kernel
theorem dX10_key_3 : decode cX10_key 3 = .ok (.bipush 112, 2) := by decide +kernel
theorem dX10_key_5 : decode cX10_key 5 = .ok (.bipush 114, 2) := by decide +kernel
theorem dX10_key_7 : decode cX10_key 7 = .ok (.bipush 101, 2) := by decide +kernel
theorem dX10_key_9 : decode cX10_key 9 = .ok (.bipush 97, 2) := by decide +kernel
theorem dX10_key_11 : decode cX10_key 11 = .ok (.bipush 100, 2) := by decide +kernel
theorem dX10_key_13 : decode cX10_key 13 = .ok (.invokevirtual 191, 3) := by decide +kernel
theorem dX10_key_16 : decode cX10_key 16 = .ok (.ifCond .eq 6, 3) := by decide +kernel
theorem dX10_key_19 : decode cX10_key 19 = .ok (.bipush 12, 2) := by decide +kernel
theorem dX10_key_21 : decode cX10_key 21 = .ok (.ireturn, 1) := by decide +kernel
theorem dX10_key_22 : decode cX10_key 22 = .ok (.aload_n 0, 1) := by decide +kernel
theorem dX10_key_23 : decode cX10_key 23 = .ok (.bipush 111, 2) := by decide +kernel
theorem dX10_key_25 : decode cX10_key 25 = .ok (.bipush 100, 2) := by decide +kernel
theorem dX10_key_27 : decode cX10_key 27 = .ok (.bipush 100, 2) := by decide +kernel
theorem dX10_key_29 : decode cX10_key 29 = .ok (.iconst 0, 1) := by decide +kernel
theorem dX10_key_30 : decode cX10_key 30 = .ok (.invokevirtual 195, 3) := by decide +kernel
theorem dX10_key_33 : decode cX10_key 33 = .ok (.ifCond .eq 6, 3) := by decide +kernel
theorem dX10_key_36 : decode cX10_key 36 = .ok (.bipush 13, 2) := by decide +kernel
theorem dX10_key_38 : decode cX10_key 38 = .ok (.ireturn, 1) := by decide +kernel
theorem dX10_key_39 : decode cX10_key 39 = .ok (.aload_n 0, 1) := by decide +kernel
theorem dX10_key_40 : decode cX10_key 40 = .ok (.invokevirtual 199, 3) := by decide +kernel
theorem dX10_key_43 : decode cX10_key 43 = .ok (.ifCond .ne 5, 3) := by decide +kernel
theorem dX10_key_46 : decode cX10_key 46 = .ok (.iconst (-1), 1) := by decide +kernel
theorem dX10_key_47 : decode cX10_key 47 = .ok (.ireturn, 1) := by decide +kernel
theorem dX10_key_48 : decode cX10_key 48 = .ok (.aload_n 0, 1) := by decide +kernel
theorem dX10_key_49 : decode cX10_key 49 = .ok (.invokevirtual 203, 3) := by decide +kernel
theorem dX10_key_52 : decode cX10_key 52 = .ok (.aload_n 0, 1) := by decide +kernel
theorem dX10_key_53 : decode cX10_key 53 = .ok (.getfield 173, 3) := by decide +kernel
theorem dX10_key_56 : decode cX10_key 56 = .ok (.iconst 2, 1) := by decide +kernel
theorem dX10_key_57 : decode cX10_key 57 = .ok (.if_icmp .ne 19, 3) := by decide +kernel
theorem dX10_key_60 : decode cX10_key 60 = .ok (.aload_n 0, 1) := by decide +kernel
theorem dX10_key_61 : decode cX10_key 61 = .ok (.getfield 188, 3) := by decide +kernel
theorem dX10_key_64 : decode cX10_key 64 = .ok (.bipush 12, 2) := by decide +kernel
theorem dX10_key_66 : decode cX10_key 66 = .ok (.if_icmp .ge 10, 3) := by decide +kernel
theorem dX10_key_69 : decode cX10_key 69 = .ok (.aload_n 0, 1) := by decide +kernel
theorem dX10_key_70 : decode cX10_key 70 = .ok (.getfield 188, 3) := by decide +kernel
theorem dX10_key_73 : decode cX10_key 73 = .ok (.goto 4, 3) := by decide +kernel
theorem dX10_key_76 : decode cX10_key 76 = .ok (.iconst (-1), 1) := by decide +kernel
theorem dX10_key_77 : decode cX10_key 77 = .ok (.ireturn, 1) := by decide +kernel
theorem dX10_isName_0 : decode cX10_isName 0 = .ok (.iload_n 0, 1) := by decide +kernel
theorem dX10_isName_1 : decode cX10_isName 1 = .ok (.lookupswitch 69 #[(12, 27), (13, 45)], 27) := by decide +kernel
theorem dX10_isName_28 : decode cX10_isName 28 = .ok (.iload_n 1, 1) := by decide +kernel
theorem dX10_isName_29 : decode cX10_isName 29 = .ok (.bipush 110, 2) := by decide +kernel
theorem dX10_isName_31 : decode cX10_isName 31 = .ok (.if_icmp .eq 9, 3) := by decide +kernel
theorem dX10_isName_34 : decode cX10_isName 34 = .ok (.iload_n 1, 1) := by decide +kernel
theorem dX10_isName_35 : decode cX10_isName 35 = .ok (.bipush 121, 2) := by decide +kernel
theorem dX10_isName_37 : decode cX10_isName 37 = .ok (.if_icmp .ne 7, 3) := by decide +kernel
theorem dX10_isName_40 : decode cX10_isName 40 = .ok (.iconst 1, 1) := by decide +kernel
theorem dX10_isName_41 : decode cX10_isName 41 = .ok (.goto 4, 3) := by decide +kernel
theorem dX10_isName_44 : decode cX10_isName 44 = .ok (.iconst 0, 1) := by decide +kernel
theorem dX10_isName_45 : decode cX10_isName 45 = .ok (.ireturn, 1) := by decide +kernel
theorem dX10_isName_46 : decode cX10_isName 46 = .ok (.iload_n 1, 1) := by decide +kernel
theorem dX10_isName_47 : decode cX10_isName 47 = .ok (.bipush 99, 2) := by decide +kernel
theorem dX10_isName_49 : decode cX10_isName 49 = .ok (.if_icmp .eq 15, 3) := by decide +kernel
theorem dX10_isName_52 : decode cX10_isName 52 = .ok (.iload_n 1, 1) := by decide +kernel
theorem dX10_isName_53 : decode cX10_isName 53 = .ok (.bipush 100, 2) := by decide +kernel
theorem dX10_isName_55 : decode cX10_isName 55 = .ok (.if_icmp .eq 9, 3) := by decide +kernel
theorem dX10_isName_58 : decode cX10_isName 58 = .ok (.iload_n 1, 1) := by decide +kernel
theorem dX10_isName_59 : decode cX10_isName 59 = .ok (.bipush 97, 2) := by decide +kernel
theorem dX10_isName_61 : decode cX10_isName 61 = .ok (.if_icmp .ne 7, 3) := by decide +kernel
theorem dX10_isName_64 : decode cX10_isName 64 = .ok (.iconst 1, 1) := by decide +kernel
theorem dX10_isName_65 : decode cX10_isName 65 = .ok (.goto 4, 3) := by decide +kernel
theorem dX10_isName_68 : decode cX10_isName 68 = .ok (.iconst 0, 1) := by decide +kernel
theorem dX10_isName_69 : decode cX10_isName 69 = .ok (.ireturn, 1) := by decide +kernel
theorem dX10_isName_70 : decode cX10_isName 70 = .ok (.iload_n 1, 1) := by decide +kernel
theorem dX10_isName_71 : decode cX10_isName 71 = .ok (.bipush 110, 2) := by decide +kernel
theorem dX10_isName_73 : decode cX10_isName 73 = .ok (.if_icmp .eq 15, 3) := by decide +kernel
theorem dX10_isName_76 : decode cX10_isName 76 = .ok (.iload_n 1, 1) := by decide +kernel
theorem dX10_isName_77 : decode cX10_isName 77 = .ok (.bipush 102, 2) := by decide +kernel
theorem dX10_isName_79 : decode cX10_isName 79 = .ok (.if_icmp .eq 9, 3) := by decide +kernel
theorem dX10_isName_82 : decode cX10_isName 82 = .ok (.iload_n 1, 1) := by decide +kernel
theorem dX10_isName_83 : decode cX10_isName 83 = .ok (.bipush 105, 2) := by decide +kernel
theorem dX10_isName_85 : decode cX10_isName 85 = .ok (.if_icmp .ne 7, 3) := by decide +kernel
theorem dX10_isName_88 : decode cX10_isName 88 = .ok (.iconst 1, 1) := by decide +kernel
theorem dX10_isName_89 : decode cX10_isName 89 = .ok (.goto 4, 3) := by decide +kernel
theorem dX10_isName_92 : decode cX10_isName 92 = .ok (.iconst 0, 1) := by decide +kernel
theorem dX10_isName_93 : decode cX10_isName 93 = .ok (.ireturn, 1) := by decide +kernel
theorem dX10_step_0 : decode cX10_step 0 = .ok (.aload_n 0, 1) := by decide +kernel
theorem dX10_step_1 : decode cX10_step 1 = .ok (.getfield 7, 3) := by decide +kernel
theorem dX10_step_4 : decode cX10_step 4 = .ok (.aload_n 0, 1) := by decide +kernel
theorem dX10_step_5 : decode cX10_step 5 = .ok (.getfield 206, 3) := by decide +kernel
theorem dX10_step_8 : decode cX10_step 8 = .ok (.iconst 2, 1) := by decide +kernel
theorem dX10_step_9 : decode cX10_step 9 = .ok (.aload_n 0, 1) := by decide +kernel
theorem dX10_step_10 : decode cX10_step 10 = .ok (.getfield 209, 3) := by decide +kernel
theorem dX10_step_13 : decode cX10_step 13 = .ok (.imul, 1) := by decide +kernel
theorem dX10_step_14 : decode cX10_step 14 = .ok (.iadd, 1) := by decide +kernel
theorem dX10_step_15 : decode cX10_step 15 = .ok (.iload_n 1, 1) := by decide +kernel
theorem dX10_step_16 : decode cX10_step 16 = .ok (.iastore, 1) := by decide +kernel
theorem dX10_step_17 : decode cX10_step 17 = .ok (.aload_n 0, 1) := by decide +kernel
theorem dX10_step_18 : decode cX10_step 18 = .ok (.getfield 7, 3) := by decide +kernel
theorem dX10_step_21 : decode cX10_step 21 = .ok (.aload_n 0, 1) := by decide +kernel
theorem dX10_step_22 : decode cX10_step 22 = .ok (.getfield 206, 3) := by decide +kernel
theorem dX10_step_25 : decode cX10_step 25 = .ok (.iconst 2, 1) := by decide +kernel
theorem dX10_step_26 : decode cX10_step 26 = .ok (.aload_n 0, 1) := by decide +kernel
theorem dX10_step_27 : decode cX10_step 27 = .ok (.getfield 209, 3) := by decide +kernel
theorem dX10_step_30 : decode cX10_step 30 = .ok (.imul, 1) := by decide +kernel
theorem dX10_step_31 : decode cX10_step 31 = .ok (.iadd, 1) := by decide +kernel
theorem dX10_step_32 : decode cX10_step 32 = .ok (.iconst 1, 1) := by decide +kernel
theorem dX10_step_33 : decode cX10_step 33 = .ok (.iadd, 1) := by decide +kernel
theorem dX10_step_34 : decode cX10_step 34 = .ok (.iload_n 2, 1) := by decide +kernel
theorem dX10_step_35 : decode cX10_step 35 = .ok (.iastore, 1) := by decide +kernel
theorem dX10_step_36 : decode cX10_step 36 = .ok (.aload_n 0, 1) := by decide +kernel
theorem dX10_step_37 : decode cX10_step 37 = .ok (.dup, 1) := by decide +kernel
theorem dX10_step_38 : decode cX10_step 38 = .ok (.getfield 209, 3) := by decide +kernel
theorem dX10_step_41 : decode cX10_step 41 = .ok (.iconst 1, 1) := by decide +kernel
theorem dX10_step_42 : decode cX10_step 42 = .ok (.iadd, 1) := by decide +kernel
theorem dX10_step_43 : decode cX10_step 43 = .ok (.putfield 209, 3) := by decide +kernel
theorem dX10_step_46 : decode cX10_step 46 = .ok (.return_, 1) := by decide +kernel
theorem dX10_either_0 : decode cX10_either 0 = .ok (.aload_n 0, 1) := by decide +kernel
theorem dX10_either_1 : decode cX10_either 1 = .ok (.iload_n 1, 1) := by decide +kernel
theorem dX10_either_2 : decode cX10_either 2 = .ok (.invokevirtual 212, 3) := by decide +kernel
theorem dX10_either_5 : decode cX10_either 5 = .ok (.ifCond .ne 5, 3) := by decide +kernel
theorem dX10_either_8 : decode cX10_either 8 = .ok (.iconst 0, 1) := by decide +kernel
theorem dX10_either_9 : decode cX10_either 9 = .ok (.ireturn, 1) := by decide +kernel
theorem dX10_either_10 : decode cX10_either 10 = .ok (.aload_n 0, 1) := by decide +kernel
theorem dX10_either_11 : decode cX10_either 11 = .ok (.bipush 124, 2) := by decide +kernel
theorem dX10_either_13 : decode cX10_either 13 = .ok (.invokevirtual 215, 3) := by decide +kernel
theorem dX10_either_16 : decode cX10_either 16 = .ok (.ifCond .eq 27, 3) := by decide +kernel
theorem dX10_either_19 : decode cX10_either 19 = .ok (.aload_n 0, 1) := by decide +kernel
theorem dX10_either_20 : decode cX10_either 20 = .ok (.invokevirtual 203, 3) := by decide +kernel
theorem dX10_either_23 : decode cX10_either 23 = .ok (.aload_n 0, 1) := by decide +kernel
theorem dX10_either_24 : decode cX10_either 24 = .ok (.iload_n 1, 1) := by decide +kernel
theorem dX10_either_25 : decode cX10_either 25 = .ok (.invokevirtual 212, 3) := by decide +kernel
theorem dX10_either_28 : decode cX10_either 28 = .ok (.ifCond .ne 5, 3) := by decide +kernel
theorem dX10_either_31 : decode cX10_either 31 = .ok (.iconst 0, 1) := by decide +kernel
theorem dX10_either_32 : decode cX10_either 32 = .ok (.ireturn, 1) := by decide +kernel
theorem dX10_either_33 : decode cX10_either 33 = .ok (.aload_n 0, 1) := by decide +kernel
theorem dX10_either_34 : decode cX10_either 34 = .ok (.iconst 2, 1) := by decide +kernel
theorem dX10_either_35 : decode cX10_either 35 = .ok (.bipush 124, 2) := by decide +kernel
theorem dX10_either_37 : decode cX10_either 37 = .ok (.invokevirtual 218, 3) := by decide +kernel
theorem dX10_either_40 : decode cX10_either 40 = .ok (.goto (-30), 3) := by decide +kernel
theorem dX10_either_43 : decode cX10_either 43 = .ok (.iconst 1, 1) := by decide +kernel
theorem dX10_either_44 : decode cX10_either 44 = .ok (.ireturn, 1) := by decide +kernel
theorem dX10_both_0 : decode cX10_both 0 = .ok (.aload_n 0, 1) := by decide +kernel
theorem dX10_both_1 : decode cX10_both 1 = .ok (.iload_n 1, 1) := by decide +kernel
theorem dX10_both_2 : decode cX10_both 2 = .ok (.invokevirtual 222, 3) := by decide +kernel
theorem dX10_both_5 : decode cX10_both 5 = .ok (.ifCond .ne 5, 3) := by decide +kernel
theorem dX10_both_8 : decode cX10_both 8 = .ok (.iconst 0, 1) := by decide +kernel
theorem dX10_both_9 : decode cX10_both 9 = .ok (.ireturn, 1) := by decide +kernel
theorem dX10_both_10 : decode cX10_both 10 = .ok (.aload_n 0, 1) := by decide +kernel
theorem dX10_both_11 : decode cX10_both 11 = .ok (.bipush 38, 2) := by decide +kernel
theorem dX10_both_13 : decode cX10_both 13 = .ok (.invokevirtual 215, 3) := by decide +kernel
theorem dX10_both_16 : decode cX10_both 16 = .ok (.ifCond .eq 27, 3) := by decide +kernel
theorem dX10_both_19 : decode cX10_both 19 = .ok (.aload_n 0, 1) := by decide +kernel
theorem dX10_both_20 : decode cX10_both 20 = .ok (.invokevirtual 203, 3) := by decide +kernel
theorem dX10_both_23 : decode cX10_both 23 = .ok (.aload_n 0, 1) := by decide +kernel
theorem dX10_both_24 : decode cX10_both 24 = .ok (.iload_n 1, 1) := by decide +kernel
theorem dX10_both_25 : decode cX10_both 25 = .ok (.invokevirtual 222, 3) := by decide +kernel
theorem dX10_both_28 : decode cX10_both 28 = .ok (.ifCond .ne 5, 3) := by decide +kernel
theorem dX10_both_31 : decode cX10_both 31 = .ok (.iconst 0, 1) := by decide +kernel
theorem dX10_both_32 : decode cX10_both 32 = .ok (.ireturn, 1) := by decide +kernel
theorem dX10_both_33 : decode cX10_both 33 = .ok (.aload_n 0, 1) := by decide +kernel
theorem dX10_both_34 : decode cX10_both 34 = .ok (.iconst 2, 1) := by decide +kernel
theorem dX10_both_35 : decode cX10_both 35 = .ok (.bipush 38, 2) := by decide +kernel
theorem dX10_both_37 : decode cX10_both 37 = .ok (.invokevirtual 218, 3) := by decide +kernel
theorem dX10_both_40 : decode cX10_both 40 = .ok (.goto (-30), 3) := by decide +kernel
theorem dX10_both_43 : decode cX10_both 43 = .ok (.iconst 1, 1) := by decide +kernel
theorem dX10_both_44 : decode cX10_both 44 = .ok (.ireturn, 1) := by decide +kernel
theorem dX10_test_0 : decode cX10_test 0 = .ok (.aload_n 0, 1) := by decide +kernel
theorem dX10_test_1 : decode cX10_test 1 = .ok (.iload_n 1, 1) := by decide +kernel
theorem dX10_test_2 : decode cX10_test 2 = .ok (.invokevirtual 225, 3) := by decide +kernel
theorem dX10_test_5 : decode cX10_test 5 = .ok (.ifCond .ne 5, 3) := by decide +kernel
theorem dX10_test_8 : decode cX10_test 8 = .ok (.iconst 0, 1) := by decide +kernel
theorem dX10_test_9 : decode cX10_test 9 = .ok (.ireturn, 1) := by decide +kernel
theorem dX10_test_10 : decode cX10_test 10 = .ok (.aload_n 0, 1) := by decide +kernel
theorem dX10_test_11 : decode cX10_test 11 = .ok (.bipush 60, 2) := by decide +kernel
theorem dX10_test_13 : decode cX10_test 13 = .ok (.invokevirtual 215, 3) := by decide +kernel
theorem dX10_test_16 : decode cX10_test 16 = .ok (.ifCond .ne 21, 3) := by decide +kernel
theorem dX10_test_19 : decode cX10_test 19 = .ok (.aload_n 0, 1) := by decide +kernel
theorem dX10_test_20 : decode cX10_test 20 = .ok (.bipush 61, 2) := by decide +kernel
theorem dX10_test_22 : decode cX10_test 22 = .ok (.invokevirtual 215, 3) := by decide +kernel
theorem dX10_test_25 : decode cX10_test 25 = .ok (.ifCond .ne 12, 3) := by decide +kernel
theorem dX10_test_28 : decode cX10_test 28 = .ok (.aload_n 0, 1) := by decide +kernel
theorem dX10_test_29 : decode cX10_test 29 = .ok (.bipush 62, 2) := by decide +kernel
theorem dX10_test_31 : decode cX10_test 31 = .ok (.invokevirtual 215, 3) := by decide +kernel
theorem dX10_test_34 : decode cX10_test 34 = .ok (.ifCond .eq 28, 3) := by decide +kernel
theorem dX10_test_37 : decode cX10_test 37 = .ok (.aload_n 0, 1) := by decide +kernel
theorem dX10_test_38 : decode cX10_test 38 = .ok (.getfield 182, 3) := by decide +kernel
theorem dX10_test_41 : decode cX10_test 41 = .ok (.istore_n 2, 1) := by decide +kernel
theorem dX10_test_42 : decode cX10_test 42 = .ok (.aload_n 0, 1) := by decide +kernel
theorem dX10_test_43 : decode cX10_test 43 = .ok (.invokevirtual 203, 3) := by decide +kernel
theorem dX10_test_46 : decode cX10_test 46 = .ok (.aload_n 0, 1) := by decide +kernel
theorem dX10_test_47 : decode cX10_test 47 = .ok (.iload_n 1, 1) := by decide +kernel
theorem dX10_test_48 : decode cX10_test 48 = .ok (.invokevirtual 225, 3) := by decide +kernel
theorem dX10_test_51 : decode cX10_test 51 = .ok (.ifCond .ne 5, 3) := by decide +kernel
theorem dX10_test_54 : decode cX10_test 54 = .ok (.iconst 0, 1) := by decide +kernel
theorem dX10_test_55 : decode cX10_test 55 = .ok (.ireturn, 1) := by decide +kernel
theorem dX10_test_56 : decode cX10_test 56 = .ok (.aload_n 0, 1) := by decide +kernel
theorem dX10_test_57 : decode cX10_test 57 = .ok (.iconst 2, 1) := by decide +kernel
theorem dX10_test_58 : decode cX10_test 58 = .ok (.iload_n 2, 1) := by decide +kernel
theorem dX10_test_59 : decode cX10_test 59 = .ok (.invokevirtual 218, 3) := by decide +kernel
theorem dX10_test_62 : decode cX10_test 62 = .ok (.iconst 1, 1) := by decide +kernel
theorem dX10_test_63 : decode cX10_test 63 = .ok (.ireturn, 1) := by decide +kernel
theorem dX10_sum_0 : decode cX10_sum 0 = .ok (.aload_n 0, 1) := by decide +kernel
theorem dX10_sum_1 : decode cX10_sum 1 = .ok (.iload_n 1, 1) := by decide +kernel
theorem dX10_sum_2 : decode cX10_sum 2 = .ok (.invokevirtual 228, 3) := by decide +kernel
theorem dX10_sum_5 : decode cX10_sum 5 = .ok (.ifCond .ne 5, 3) := by decide +kernel
theorem dX10_sum_8 : decode cX10_sum 8 = .ok (.iconst 0, 1) := by decide +kernel
theorem dX10_sum_9 : decode cX10_sum 9 = .ok (.ireturn, 1) := by decide +kernel
theorem dX10_sum_10 : decode cX10_sum 10 = .ok (.aload_n 0, 1) := by decide +kernel
theorem dX10_sum_11 : decode cX10_sum 11 = .ok (.bipush 43, 2) := by decide +kernel
theorem dX10_sum_13 : decode cX10_sum 13 = .ok (.invokevirtual 215, 3) := by decide +kernel
theorem dX10_sum_16 : decode cX10_sum 16 = .ok (.ifCond .ne 12, 3) := by decide +kernel
theorem dX10_sum_19 : decode cX10_sum 19 = .ok (.aload_n 0, 1) := by decide +kernel
theorem dX10_sum_20 : decode cX10_sum 20 = .ok (.bipush 45, 2) := by decide +kernel
theorem dX10_sum_22 : decode cX10_sum 22 = .ok (.invokevirtual 215, 3) := by decide +kernel
theorem dX10_sum_25 : decode cX10_sum 25 = .ok (.ifCond .eq 31, 3) := by decide +kernel
theorem dX10_sum_28 : decode cX10_sum 28 = .ok (.aload_n 0, 1) := by decide +kernel
theorem dX10_sum_29 : decode cX10_sum 29 = .ok (.getfield 182, 3) := by decide +kernel
theorem dX10_sum_32 : decode cX10_sum 32 = .ok (.istore_n 2, 1) := by decide +kernel
theorem dX10_sum_33 : decode cX10_sum 33 = .ok (.aload_n 0, 1) := by decide +kernel
theorem dX10_sum_34 : decode cX10_sum 34 = .ok (.invokevirtual 203, 3) := by decide +kernel
theorem dX10_sum_37 : decode cX10_sum 37 = .ok (.aload_n 0, 1) := by decide +kernel
theorem dX10_sum_38 : decode cX10_sum 38 = .ok (.iload_n 1, 1) := by decide +kernel
theorem dX10_sum_39 : decode cX10_sum 39 = .ok (.invokevirtual 228, 3) := by decide +kernel
theorem dX10_sum_42 : decode cX10_sum 42 = .ok (.ifCond .ne 5, 3) := by decide +kernel
theorem dX10_sum_45 : decode cX10_sum 45 = .ok (.iconst 0, 1) := by decide +kernel
theorem dX10_sum_46 : decode cX10_sum 46 = .ok (.ireturn, 1) := by decide +kernel
theorem dX10_sum_47 : decode cX10_sum 47 = .ok (.aload_n 0, 1) := by decide +kernel
theorem dX10_sum_48 : decode cX10_sum 48 = .ok (.iconst 2, 1) := by decide +kernel
theorem dX10_sum_49 : decode cX10_sum 49 = .ok (.iload_n 2, 1) := by decide +kernel
theorem dX10_sum_50 : decode cX10_sum 50 = .ok (.invokevirtual 218, 3) := by decide +kernel
theorem dX10_sum_53 : decode cX10_sum 53 = .ok (.goto (-43), 3) := by decide +kernel
theorem dX10_sum_56 : decode cX10_sum 56 = .ok (.iconst 1, 1) := by decide +kernel
theorem dX10_sum_57 : decode cX10_sum 57 = .ok (.ireturn, 1) := by decide +kernel
theorem dX10_term_0 : decode cX10_term 0 = .ok (.aload_n 0, 1) := by decide +kernel
theorem dX10_term_1 : decode cX10_term 1 = .ok (.iload_n 1, 1) := by decide +kernel
theorem dX10_term_2 : decode cX10_term 2 = .ok (.invokevirtual 231, 3) := by decide +kernel
theorem dX10_term_5 : decode cX10_term 5 = .ok (.ifCond .ne 5, 3) := by decide +kernel
theorem dX10_term_8 : decode cX10_term 8 = .ok (.iconst 0, 1) := by decide +kernel
theorem dX10_term_9 : decode cX10_term 9 = .ok (.ireturn, 1) := by decide +kernel
theorem dX10_term_10 : decode cX10_term 10 = .ok (.aload_n 0, 1) := by decide +kernel
theorem dX10_term_11 : decode cX10_term 11 = .ok (.bipush 42, 2) := by decide +kernel
theorem dX10_term_13 : decode cX10_term 13 = .ok (.invokevirtual 215, 3) := by decide +kernel
theorem dX10_term_16 : decode cX10_term 16 = .ok (.ifCond .ne 12, 3) := by decide +kernel
theorem dX10_term_19 : decode cX10_term 19 = .ok (.aload_n 0, 1) := by decide +kernel
theorem dX10_term_20 : decode cX10_term 20 = .ok (.bipush 47, 2) := by decide +kernel
theorem dX10_term_22 : decode cX10_term 22 = .ok (.invokevirtual 215, 3) := by decide +kernel
theorem dX10_term_25 : decode cX10_term 25 = .ok (.ifCond .eq 31, 3) := by decide +kernel
theorem dX10_term_28 : decode cX10_term 28 = .ok (.aload_n 0, 1) := by decide +kernel
theorem dX10_term_29 : decode cX10_term 29 = .ok (.getfield 182, 3) := by decide +kernel
theorem dX10_term_32 : decode cX10_term 32 = .ok (.istore_n 2, 1) := by decide +kernel
theorem dX10_term_33 : decode cX10_term 33 = .ok (.aload_n 0, 1) := by decide +kernel
theorem dX10_term_34 : decode cX10_term 34 = .ok (.invokevirtual 203, 3) := by decide +kernel
theorem dX10_term_37 : decode cX10_term 37 = .ok (.aload_n 0, 1) := by decide +kernel
theorem dX10_term_38 : decode cX10_term 38 = .ok (.iload_n 1, 1) := by decide +kernel
theorem dX10_term_39 : decode cX10_term 39 = .ok (.invokevirtual 231, 3) := by decide +kernel
theorem dX10_term_42 : decode cX10_term 42 = .ok (.ifCond .ne 5, 3) := by decide +kernel
theorem dX10_term_45 : decode cX10_term 45 = .ok (.iconst 0, 1) := by decide +kernel
theorem dX10_term_46 : decode cX10_term 46 = .ok (.ireturn, 1) := by decide +kernel
theorem dX10_term_47 : decode cX10_term 47 = .ok (.aload_n 0, 1) := by decide +kernel
theorem dX10_term_48 : decode cX10_term 48 = .ok (.iconst 2, 1) := by decide +kernel
theorem dX10_term_49 : decode cX10_term 49 = .ok (.iload_n 2, 1) := by decide +kernel
theorem dX10_term_50 : decode cX10_term 50 = .ok (.invokevirtual 218, 3) := by decide +kernel
theorem dX10_term_53 : decode cX10_term 53 = .ok (.goto (-43), 3) := by decide +kernel
theorem dX10_term_56 : decode cX10_term 56 = .ok (.iconst 1, 1) := by decide +kernel
theorem dX10_term_57 : decode cX10_term 57 = .ok (.ireturn, 1) := by decide +kernel
theorem dX10_part0_0 : decode cX10_part0 0 = .ok (.aload_n 0, 1) := by decide +kernel
theorem dX10_part0_1 : decode cX10_part0 1 = .ok (.getfield 173, 3) := by decide +kernel
theorem dX10_part0_4 : decode cX10_part0 4 = .ok (.iconst 2, 1) := by decide +kernel
theorem dX10_part0_5 : decode cX10_part0 5 = .ok (.if_icmp .ne 28, 3) := by decide +kernel
theorem dX10_part0_8 : decode cX10_part0 8 = .ok (.aload_n 0, 1) := by decide +kernel
theorem dX10_part0_9 : decode cX10_part0 9 = .ok (.iconst 0, 1) := by decide +kernel
theorem dX10_part0_10 : decode cX10_part0 10 = .ok (.aload_n 0, 1) := by decide +kernel
theorem dX10_part0_11 : decode cX10_part0 11 = .ok (.getfield 188, 3) := by decide +kernel
theorem dX10_part0_14 : decode cX10_part0 14 = .ok (.invokevirtual 218, 3) := by decide +kernel
theorem dX10_part0_17 : decode cX10_part0 17 = .ok (.aload_n 0, 1) := by decide +kernel
theorem dX10_part0_18 : decode cX10_part0 18 = .ok (.dup, 1) := by decide +kernel
theorem dX10_part0_19 : decode cX10_part0 19 = .ok (.getfield 234, 3) := by decide +kernel
theorem dX10_part0_22 : decode cX10_part0 22 = .ok (.iconst 1, 1) := by decide +kernel
theorem dX10_part0_23 : decode cX10_part0 23 = .ok (.iadd, 1) := by decide +kernel
theorem dX10_part0_24 : decode cX10_part0 24 = .ok (.putfield 234, 3) := by decide +kernel
theorem dX10_part0_27 : decode cX10_part0 27 = .ok (.aload_n 0, 1) := by decide +kernel
theorem dX10_part0_28 : decode cX10_part0 28 = .ok (.invokevirtual 203, 3) := by decide +kernel
theorem dX10_part0_31 : decode cX10_part0 31 = .ok (.iconst 1, 1) := by decide +kernel
theorem dX10_part0_32 : decode cX10_part0 32 = .ok (.ireturn, 1) := by decide +kernel
theorem dX10_part0_33 : decode cX10_part0 33 = .ok (.aload_n 0, 1) := by decide +kernel
theorem dX10_part0_34 : decode cX10_part0 34 = .ok (.getfield 173, 3) := by decide +kernel
theorem dX10_part0_37 : decode cX10_part0 37 = .ok (.iconst 1, 1) := by decide +kernel
theorem dX10_part0_38 : decode cX10_part0 38 = .ok (.if_icmp .ne 46, 3) := by decide +kernel
theorem dX10_part0_41 : decode cX10_part0 41 = .ok (.aload_n 0, 1) := by decide +kernel
theorem dX10_part0_42 : decode cX10_part0 42 = .ok (.getfield 182, 3) := by decide +kernel
theorem dX10_part0_45 : decode cX10_part0 45 = .ok (.ifCond .eq 39, 3) := by decide +kernel
theorem dX10_part0_48 : decode cX10_part0 48 = .ok (.iload_n 1, 1) := by decide +kernel
theorem dX10_part0_49 : decode cX10_part0 49 = .ok (.aload_n 0, 1) := by decide +kernel
theorem dX10_part0_50 : decode cX10_part0 50 = .ok (.getfield 182, 3) := by decide +kernel
theorem dX10_part0_53 : decode cX10_part0 53 = .ok (.invokestatic 237, 3) := by decide +kernel
theorem dX10_part0_56 : decode cX10_part0 56 = .ok (.ifCond .eq 28, 3) := by decide +kernel
theorem dX10_part0_59 : decode cX10_part0 59 = .ok (.aload_n 0, 1) := by decide +kernel
theorem dX10_part0_60 : decode cX10_part0 60 = .ok (.iconst 1, 1) := by decide +kernel
theorem dX10_part0_61 : decode cX10_part0 61 = .ok (.aload_n 0, 1) := by decide +kernel
theorem dX10_part0_62 : decode cX10_part0 62 = .ok (.getfield 182, 3) := by decide +kernel
theorem dX10_part0_65 : decode cX10_part0 65 = .ok (.invokevirtual 218, 3) := by decide +kernel
theorem dX10_part0_68 : decode cX10_part0 68 = .ok (.aload_n 0, 1) := by decide +kernel
theorem dX10_part0_69 : decode cX10_part0 69 = .ok (.dup, 1) := by decide +kernel
theorem dX10_part0_70 : decode cX10_part0 70 = .ok (.getfield 234, 3) := by decide +kernel
theorem dX10_part0_73 : decode cX10_part0 73 = .ok (.iconst 1, 1) := by decide +kernel
theorem dX10_part0_74 : decode cX10_part0 74 = .ok (.iadd, 1) := by decide +kernel
theorem dX10_part0_75 : decode cX10_part0 75 = .ok (.putfield 234, 3) := by decide +kernel
theorem dX10_part0_78 : decode cX10_part0 78 = .ok (.aload_n 0, 1) := by decide +kernel
theorem dX10_part0_79 : decode cX10_part0 79 = .ok (.invokevirtual 203, 3) := by decide +kernel
theorem dX10_part0_82 : decode cX10_part0 82 = .ok (.iconst 1, 1) := by decide +kernel
theorem dX10_part0_83 : decode cX10_part0 83 = .ok (.ireturn, 1) := by decide +kernel
theorem dX10_part0_84 : decode cX10_part0 84 = .ok (.aload_n 0, 1) := by decide +kernel
theorem dX10_part0_85 : decode cX10_part0 85 = .ok (.bipush 33, 2) := by decide +kernel
theorem dX10_part0_87 : decode cX10_part0 87 = .ok (.invokevirtual 215, 3) := by decide +kernel
theorem dX10_part0_90 : decode cX10_part0 90 = .ok (.ifCond .eq 55, 3) := by decide +kernel
theorem dX10_part0_93 : decode cX10_part0 93 = .ok (.aload_n 0, 1) := by decide +kernel
theorem dX10_part0_94 : decode cX10_part0 94 = .ok (.getfield 240, 3) := by decide +kernel
theorem dX10_part0_97 : decode cX10_part0 97 = .ok (.bipush 8, 2) := by decide +kernel
theorem dX10_part0_99 : decode cX10_part0 99 = .ok (.if_icmp .ge 46, 3) := by decide +kernel
theorem dX10_part0_102 : decode cX10_part0 102 = .ok (.aload_n 0, 1) := by decide +kernel
theorem dX10_part0_103 : decode cX10_part0 103 = .ok (.dup, 1) := by decide +kernel
theorem dX10_part0_104 : decode cX10_part0 104 = .ok (.getfield 240, 3) := by decide +kernel
theorem dX10_part0_107 : decode cX10_part0 107 = .ok (.iconst 1, 1) := by decide +kernel
theorem dX10_part0_108 : decode cX10_part0 108 = .ok (.iadd, 1) := by decide +kernel
theorem dX10_part0_109 : decode cX10_part0 109 = .ok (.putfield 240, 3) := by decide +kernel
theorem dX10_part0_112 : decode cX10_part0 112 = .ok (.aload_n 0, 1) := by decide +kernel
theorem dX10_part0_113 : decode cX10_part0 113 = .ok (.invokevirtual 203, 3) := by decide +kernel
theorem dX10_part0_116 : decode cX10_part0 116 = .ok (.aload_n 0, 1) := by decide +kernel
theorem dX10_part0_117 : decode cX10_part0 117 = .ok (.iload_n 1, 1) := by decide +kernel
theorem dX10_part0_118 : decode cX10_part0 118 = .ok (.invokevirtual 231, 3) := by decide +kernel
theorem dX10_part0_121 : decode cX10_part0 121 = .ok (.ifCond .ne 5, 3) := by decide +kernel
theorem dX10_part0_124 : decode cX10_part0 124 = .ok (.iconst 0, 1) := by decide +kernel
theorem dX10_part0_125 : decode cX10_part0 125 = .ok (.ireturn, 1) := by decide +kernel
theorem dX10_part0_126 : decode cX10_part0 126 = .ok (.aload_n 0, 1) := by decide +kernel
theorem dX10_part0_127 : decode cX10_part0 127 = .ok (.dup, 1) := by decide +kernel
theorem dX10_part0_128 : decode cX10_part0 128 = .ok (.getfield 240, 3) := by decide +kernel
theorem dX10_part0_131 : decode cX10_part0 131 = .ok (.iconst 1, 1) := by decide +kernel
theorem dX10_part0_132 : decode cX10_part0 132 = .ok (.isub, 1) := by decide +kernel
theorem dX10_part0_133 : decode cX10_part0 133 = .ok (.putfield 240, 3) := by decide +kernel
theorem dX10_part0_136 : decode cX10_part0 136 = .ok (.aload_n 0, 1) := by decide +kernel
theorem dX10_part0_137 : decode cX10_part0 137 = .ok (.iconst 2, 1) := by decide +kernel
theorem dX10_part0_138 : decode cX10_part0 138 = .ok (.bipush 33, 2) := by decide +kernel
theorem dX10_part0_140 : decode cX10_part0 140 = .ok (.invokevirtual 218, 3) := by decide +kernel
theorem dX10_part0_143 : decode cX10_part0 143 = .ok (.iconst 1, 1) := by decide +kernel
theorem dX10_part0_144 : decode cX10_part0 144 = .ok (.ireturn, 1) := by decide +kernel
theorem dX10_part0_145 : decode cX10_part0 145 = .ok (.aload_n 0, 1) := by decide +kernel
theorem dX10_part0_146 : decode cX10_part0 146 = .ok (.bipush 40, 2) := by decide +kernel
theorem dX10_part0_148 : decode cX10_part0 148 = .ok (.invokevirtual 215, 3) := by decide +kernel
theorem dX10_part0_151 : decode cX10_part0 151 = .ok (.ifCond .eq 12, 3) := by decide +kernel
theorem dX10_part0_154 : decode cX10_part0 154 = .ok (.aload_n 0, 1) := by decide +kernel
theorem dX10_part0_155 : decode cX10_part0 155 = .ok (.getfield 243, 3) := by decide +kernel
theorem dX10_part0_158 : decode cX10_part0 158 = .ok (.bipush 8, 2) := by decide +kernel
theorem dX10_part0_160 : decode cX10_part0 160 = .ok (.if_icmp .ne 5, 3) := by decide +kernel
theorem dX10_part0_163 : decode cX10_part0 163 = .ok (.iconst 0, 1) := by decide +kernel
theorem dX10_part0_164 : decode cX10_part0 164 = .ok (.ireturn, 1) := by decide +kernel
theorem dX10_part0_165 : decode cX10_part0 165 = .ok (.aload_n 0, 1) := by decide +kernel
theorem dX10_part0_166 : decode cX10_part0 166 = .ok (.dup, 1) := by decide +kernel
theorem dX10_part0_167 : decode cX10_part0 167 = .ok (.getfield 243, 3) := by decide +kernel
theorem dX10_part0_170 : decode cX10_part0 170 = .ok (.iconst 1, 1) := by decide +kernel
theorem dX10_part0_171 : decode cX10_part0 171 = .ok (.iadd, 1) := by decide +kernel
theorem dX10_part0_172 : decode cX10_part0 172 = .ok (.putfield 243, 3) := by decide +kernel
theorem dX10_part0_175 : decode cX10_part0 175 = .ok (.aload_n 0, 1) := by decide +kernel
theorem dX10_part0_176 : decode cX10_part0 176 = .ok (.invokevirtual 203, 3) := by decide +kernel
theorem dX10_part0_179 : decode cX10_part0 179 = .ok (.aload_n 0, 1) := by decide +kernel
theorem dX10_part0_180 : decode cX10_part0 180 = .ok (.iload_n 1, 1) := by decide +kernel
theorem dX10_part0_181 : decode cX10_part0 181 = .ok (.invokevirtual 246, 3) := by decide +kernel
theorem dX10_part0_184 : decode cX10_part0 184 = .ok (.ifCond .eq 12, 3) := by decide +kernel
theorem dX10_part0_187 : decode cX10_part0 187 = .ok (.aload_n 0, 1) := by decide +kernel
theorem dX10_part0_188 : decode cX10_part0 188 = .ok (.bipush 41, 2) := by decide +kernel
theorem dX10_part0_190 : decode cX10_part0 190 = .ok (.invokevirtual 215, 3) := by decide +kernel
theorem dX10_part0_193 : decode cX10_part0 193 = .ok (.ifCond .ne 5, 3) := by decide +kernel
theorem dX10_part0_196 : decode cX10_part0 196 = .ok (.iconst 0, 1) := by decide +kernel
theorem dX10_part0_197 : decode cX10_part0 197 = .ok (.ireturn, 1) := by decide +kernel
theorem dX10_part0_198 : decode cX10_part0 198 = .ok (.aload_n 0, 1) := by decide +kernel
theorem dX10_part0_199 : decode cX10_part0 199 = .ok (.dup, 1) := by decide +kernel
theorem dX10_part0_200 : decode cX10_part0 200 = .ok (.getfield 243, 3) := by decide +kernel
theorem dX10_part0_203 : decode cX10_part0 203 = .ok (.iconst 1, 1) := by decide +kernel
theorem dX10_part0_204 : decode cX10_part0 204 = .ok (.isub, 1) := by decide +kernel
theorem dX10_part0_205 : decode cX10_part0 205 = .ok (.putfield 243, 3) := by decide +kernel
theorem dX10_part0_208 : decode cX10_part0 208 = .ok (.aload_n 0, 1) := by decide +kernel
theorem dX10_part0_209 : decode cX10_part0 209 = .ok (.invokevirtual 203, 3) := by decide +kernel
theorem dX10_part0_212 : decode cX10_part0 212 = .ok (.iconst 1, 1) := by decide +kernel
theorem dX10_part0_213 : decode cX10_part0 213 = .ok (.ireturn, 1) := by decide +kernel
theorem dX10_parse_0 : decode cX10_parse 0 = .ok (.aload_n 0, 1) := by decide +kernel
theorem dX10_parse_1 : decode cX10_parse 1 = .ok (.iconst 0, 1) := by decide +kernel
theorem dX10_parse_2 : decode cX10_parse 2 = .ok (.putfield 170, 3) := by decide +kernel
theorem dX10_parse_5 : decode cX10_parse 5 = .ok (.aload_n 0, 1) := by decide +kernel
theorem dX10_parse_6 : decode cX10_parse 6 = .ok (.iconst 3, 1) := by decide +kernel
theorem dX10_parse_7 : decode cX10_parse 7 = .ok (.putfield 173, 3) := by decide +kernel
theorem dX10_parse_10 : decode cX10_parse 10 = .ok (.aload_n 0, 1) := by decide +kernel
theorem dX10_parse_11 : decode cX10_parse 11 = .ok (.iconst 0, 1) := by decide +kernel
theorem dX10_parse_12 : decode cX10_parse 12 = .ok (.putfield 243, 3) := by decide +kernel
theorem dX10_parse_15 : decode cX10_parse 15 = .ok (.aload_n 0, 1) := by decide +kernel
theorem dX10_parse_16 : decode cX10_parse 16 = .ok (.iconst 0, 1) := by decide +kernel
theorem dX10_parse_17 : decode cX10_parse 17 = .ok (.putfield 240, 3) := by decide +kernel
theorem dX10_parse_20 : decode cX10_parse 20 = .ok (.aload_n 0, 1) := by decide +kernel
theorem dX10_parse_21 : decode cX10_parse 21 = .ok (.iconst 0, 1) := by decide +kernel
theorem dX10_parse_22 : decode cX10_parse 22 = .ok (.putfield 209, 3) := by decide +kernel
theorem dX10_parse_25 : decode cX10_parse 25 = .ok (.aload_n 0, 1) := by decide +kernel
theorem dX10_parse_26 : decode cX10_parse 26 = .ok (.iconst 0, 1) := by decide +kernel
theorem dX10_parse_27 : decode cX10_parse 27 = .ok (.putfield 234, 3) := by decide +kernel
theorem dX10_parse_30 : decode cX10_parse 30 = .ok (.aload_n 0, 1) := by decide +kernel
theorem dX10_parse_31 : decode cX10_parse 31 = .ok (.aload_n 0, 1) := by decide +kernel
theorem dX10_parse_32 : decode cX10_parse 32 = .ok (.getfield 7, 3) := by decide +kernel
theorem dX10_parse_35 : decode cX10_parse 35 = .ok (.iconst 2, 1) := by decide +kernel
theorem dX10_parse_36 : decode cX10_parse 36 = .ok (.iaload, 1) := by decide +kernel
theorem dX10_parse_37 : decode cX10_parse 37 = .ok (.bipush 14, 2) := by decide +kernel
theorem dX10_parse_39 : decode cX10_parse 39 = .ok (.if_icmp .ge 18, 3) := by decide +kernel
theorem dX10_parse_42 : decode cX10_parse 42 = .ok (.aload_n 0, 1) := by decide +kernel
theorem dX10_parse_43 : decode cX10_parse 43 = .ok (.aload_n 0, 1) := by decide +kernel
theorem dX10_parse_44 : decode cX10_parse 44 = .ok (.getfield 7, 3) := by decide +kernel
theorem dX10_parse_47 : decode cX10_parse 47 = .ok (.iconst 2, 1) := by decide +kernel
theorem dX10_parse_48 : decode cX10_parse 48 = .ok (.iaload, 1) := by decide +kernel
theorem dX10_parse_49 : decode cX10_parse 49 = .ok (.invokevirtual 109, 3) := by decide +kernel
theorem dX10_parse_52 : decode cX10_parse 52 = .ok (.iconst 4, 1) := by decide +kernel
theorem dX10_parse_53 : decode cX10_parse 53 = .ok (.iadd, 1) := by decide +kernel
theorem dX10_parse_54 : decode cX10_parse 54 = .ok (.goto 6, 3) := by decide +kernel
theorem dX10_parse_57 : decode cX10_parse 57 = .ok (.sipush 3310, 3) := by decide +kernel
theorem dX10_parse_60 : decode cX10_parse 60 = .ok (.putfield 206, 3) := by decide +kernel
theorem dX10_parse_63 : decode cX10_parse 63 = .ok (.aload_n 0, 1) := by decide +kernel
theorem dX10_parse_64 : decode cX10_parse 64 = .ok (.invokevirtual 203, 3) := by decide +kernel
theorem dX10_parse_67 : decode cX10_parse 67 = .ok (.aload_n 0, 1) := by decide +kernel
theorem dX10_parse_68 : decode cX10_parse 68 = .ok (.invokevirtual 249, 3) := by decide +kernel
theorem dX10_parse_71 : decode cX10_parse 71 = .ok (.istore_n 1, 1) := by decide +kernel
theorem dX10_parse_72 : decode cX10_parse 72 = .ok (.iload_n 1, 1) := by decide +kernel
theorem dX10_parse_73 : decode cX10_parse 73 = .ok (.ifCond .lt 7, 3) := by decide +kernel
theorem dX10_parse_76 : decode cX10_parse 76 = .ok (.iconst 1, 1) := by decide +kernel
theorem dX10_parse_77 : decode cX10_parse 77 = .ok (.goto 4, 3) := by decide +kernel
theorem dX10_parse_80 : decode cX10_parse 80 = .ok (.iconst 0, 1) := by decide +kernel
theorem dX10_parse_81 : decode cX10_parse 81 = .ok (.istore_n 2, 1) := by decide +kernel
theorem dX10_parse_82 : decode cX10_parse 82 = .ok (.iload_n 2, 1) := by decide +kernel
theorem dX10_parse_83 : decode cX10_parse 83 = .ok (.ifCond .eq 28, 3) := by decide +kernel
theorem dX10_parse_86 : decode cX10_parse 86 = .ok (.aload_n 0, 1) := by decide +kernel
theorem dX10_parse_87 : decode cX10_parse 87 = .ok (.invokevirtual 203, 3) := by decide +kernel
theorem dX10_parse_90 : decode cX10_parse 90 = .ok (.aload_n 0, 1) := by decide +kernel
theorem dX10_parse_91 : decode cX10_parse 91 = .ok (.iload_n 1, 1) := by decide +kernel
theorem dX10_parse_92 : decode cX10_parse 92 = .ok (.invokevirtual 246, 3) := by decide +kernel
theorem dX10_parse_95 : decode cX10_parse 95 = .ok (.ifCond .eq 14, 3) := by decide +kernel
theorem dX10_parse_98 : decode cX10_parse 98 = .ok (.aload_n 0, 1) := by decide +kernel
theorem dX10_parse_99 : decode cX10_parse 99 = .ok (.getfield 173, 3) := by decide +kernel
theorem dX10_parse_102 : decode cX10_parse 102 = .ok (.ifCond .ne 7, 3) := by decide +kernel
theorem dX10_parse_105 : decode cX10_parse 105 = .ok (.iconst 1, 1) := by decide +kernel
theorem dX10_parse_106 : decode cX10_parse 106 = .ok (.goto 4, 3) := by decide +kernel
theorem dX10_parse_109 : decode cX10_parse 109 = .ok (.iconst 0, 1) := by decide +kernel
theorem dX10_parse_110 : decode cX10_parse 110 = .ok (.istore_n 2, 1) := by decide +kernel
theorem dX10_parse_111 : decode cX10_parse 111 = .ok (.aload_n 0, 1) := by decide +kernel
theorem dX10_parse_112 : decode cX10_parse 112 = .ok (.iconst 0, 1) := by decide +kernel
theorem dX10_parse_113 : decode cX10_parse 113 = .ok (.putfield 158, 3) := by decide +kernel
theorem dX10_parse_116 : decode cX10_parse 116 = .ok (.iload_n 2, 1) := by decide +kernel
theorem dX10_parse_117 : decode cX10_parse 117 = .ok (.ifCond .eq 7, 3) := by decide +kernel
theorem dX10_parse_120 : decode cX10_parse 120 = .ok (.iload_n 1, 1) := by decide +kernel
theorem dX10_parse_121 : decode cX10_parse 121 = .ok (.goto 4, 3) := by decide +kernel
theorem dX10_parse_124 : decode cX10_parse 124 = .ok (.iconst (-1), 1) := by decide +kernel
theorem dX10_parse_125 : decode cX10_parse 125 = .ok (.ireturn, 1) := by decide +kernel
theorem dX10_text_0 : decode cX10_text 0 = .ok (.aload_n 0, 1) := by decide +kernel
theorem dX10_text_1 : decode cX10_text 1 = .ok (.invokevirtual 253, 3) := by decide +kernel
theorem dX10_text_4 : decode cX10_text 4 = .ok (.istore_n 1, 1) := by decide +kernel
theorem dX10_text_5 : decode cX10_text 5 = .ok (.iload_n 1, 1) := by decide +kernel
theorem dX10_text_6 : decode cX10_text 6 = .ok (.ifCond .ge 11, 3) := by decide +kernel
theorem dX10_text_9 : decode cX10_text 9 = .ok (.bipush (-100), 2) := by decide +kernel
theorem dX10_text_11 : decode cX10_text 11 = .ok (.aload_n 0, 1) := by decide +kernel
theorem dX10_text_12 : decode cX10_text 12 = .ok (.getfield 176, 3) := by decide +kernel
theorem dX10_text_15 : decode cX10_text 15 = .ok (.isub, 1) := by decide +kernel
theorem dX10_text_16 : decode cX10_text 16 = .ok (.ireturn, 1) := by decide +kernel
theorem dX10_text_17 : decode cX10_text 17 = .ok (.aload_n 0, 1) := by decide +kernel
theorem dX10_text_18 : decode cX10_text 18 = .ok (.getfield 7, 3) := by decide +kernel
theorem dX10_text_21 : decode cX10_text 21 = .ok (.iconst 2, 1) := by decide +kernel
theorem dX10_text_22 : decode cX10_text 22 = .ok (.iaload, 1) := by decide +kernel
theorem dX10_text_23 : decode cX10_text 23 = .ok (.bipush 14, 2) := by decide +kernel
theorem dX10_text_25 : decode cX10_text 25 = .ok (.if_icmp .ne 6, 3) := by decide +kernel
theorem dX10_text_28 : decode cX10_text 28 = .ok (.ldc 86, 2) := by decide +kernel
theorem dX10_text_30 : decode cX10_text 30 = .ok (.ireturn, 1) := by decide +kernel
theorem dX10_text_31 : decode cX10_text 31 = .ok (.aload_n 0, 1) := by decide +kernel
theorem dX10_text_32 : decode cX10_text 32 = .ok (.aload_n 0, 1) := by decide +kernel
theorem dX10_text_33 : decode cX10_text 33 = .ok (.getfield 7, 3) := by decide +kernel
theorem dX10_text_36 : decode cX10_text 36 = .ok (.iconst 2, 1) := by decide +kernel
theorem dX10_text_37 : decode cX10_text 37 = .ok (.iaload, 1) := by decide +kernel
theorem dX10_text_38 : decode cX10_text 38 = .ok (.invokevirtual 109, 3) := by decide +kernel
theorem dX10_text_41 : decode cX10_text 41 = .ok (.istore_n 2, 1) := by decide +kernel
theorem dX10_text_42 : decode cX10_text 42 = .ok (.aload_n 0, 1) := by decide +kernel
theorem dX10_text_43 : decode cX10_text 43 = .ok (.getfield 7, 3) := by decide +kernel
theorem dX10_text_46 : decode cX10_text 46 = .ok (.iload_n 2, 1) := by decide +kernel
theorem dX10_text_47 : decode cX10_text 47 = .ok (.iconst 0, 1) := by decide +kernel
theorem dX10_text_48 : decode cX10_text 48 = .ok (.iadd, 1) := by decide +kernel
theorem dX10_text_49 : decode cX10_text 49 = .ok (.iload_n 1, 1) := by decide +kernel
theorem dX10_text_50 : decode cX10_text 50 = .ok (.iastore, 1) := by decide +kernel
theorem dX10_text_51 : decode cX10_text 51 = .ok (.aload_n 0, 1) := by decide +kernel
theorem dX10_text_52 : decode cX10_text 52 = .ok (.getfield 7, 3) := by decide +kernel
theorem dX10_text_55 : decode cX10_text 55 = .ok (.iload_n 2, 1) := by decide +kernel
theorem dX10_text_56 : decode cX10_text 56 = .ok (.iconst 1, 1) := by decide +kernel
theorem dX10_text_57 : decode cX10_text 57 = .ok (.iadd, 1) := by decide +kernel
theorem dX10_text_58 : decode cX10_text 58 = .ok (.aload_n 0, 1) := by decide +kernel
theorem dX10_text_59 : decode cX10_text 59 = .ok (.getfield 234, 3) := by decide +kernel
theorem dX10_text_62 : decode cX10_text 62 = .ok (.iastore, 1) := by decide +kernel
theorem dX10_text_63 : decode cX10_text 63 = .ok (.aload_n 0, 1) := by decide +kernel
theorem dX10_text_64 : decode cX10_text 64 = .ok (.getfield 7, 3) := by decide +kernel
theorem dX10_text_67 : decode cX10_text 67 = .ok (.iload_n 2, 1) := by decide +kernel
theorem dX10_text_68 : decode cX10_text 68 = .ok (.iconst 2, 1) := by decide +kernel
theorem dX10_text_69 : decode cX10_text 69 = .ok (.iadd, 1) := by decide +kernel
theorem dX10_text_70 : decode cX10_text 70 = .ok (.aload_n 0, 1) := by decide +kernel
theorem dX10_text_71 : decode cX10_text 71 = .ok (.getfield 209, 3) := by decide +kernel
theorem dX10_text_74 : decode cX10_text 74 = .ok (.iastore, 1) := by decide +kernel
theorem dX10_text_75 : decode cX10_text 75 = .ok (.aload_n 0, 1) := by decide +kernel
theorem dX10_text_76 : decode cX10_text 76 = .ok (.getfield 7, 3) := by decide +kernel
theorem dX10_text_79 : decode cX10_text 79 = .ok (.iconst 2, 1) := by decide +kernel
theorem dX10_text_80 : decode cX10_text 80 = .ok (.dup2, 1) := by decide +kernel
theorem dX10_text_81 : decode cX10_text 81 = .ok (.iaload, 1) := by decide +kernel
theorem dX10_text_82 : decode cX10_text 82 = .ok (.iconst 1, 1) := by decide +kernel
theorem dX10_text_83 : decode cX10_text 83 = .ok (.iadd, 1) := by decide +kernel
theorem dX10_text_84 : decode cX10_text 84 = .ok (.iastore, 1) := by decide +kernel
theorem dX10_text_85 : decode cX10_text 85 = .ok (.aload_n 0, 1) := by decide +kernel
theorem dX10_text_86 : decode cX10_text 86 = .ok (.getfield 7, 3) := by decide +kernel
theorem dX10_text_89 : decode cX10_text 89 = .ok (.iconst 2, 1) := by decide +kernel
theorem dX10_text_90 : decode cX10_text 90 = .ok (.iaload, 1) := by decide +kernel
theorem dX10_text_91 : decode cX10_text 91 = .ok (.iconst 1, 1) := by decide +kernel
theorem dX10_text_92 : decode cX10_text 92 = .ok (.isub, 1) := by decide +kernel
theorem dX10_text_93 : decode cX10_text 93 = .ok (.ireturn, 1) := by decide +kernel
theorem dX10_of_0 : decode cX10_of 0 = .ok (.aload_n 0, 1) := by decide +kernel
theorem dX10_of_1 : decode cX10_of 1 = .ok (.iload_n 1, 1) := by decide +kernel
theorem dX10_of_2 : decode cX10_of 2 = .ok (.invokevirtual 256, 3) := by decide +kernel
theorem dX10_of_5 : decode cX10_of 5 = .ok (.ifCond .eq 15, 3) := by decide +kernel
theorem dX10_of_8 : decode cX10_of 8 = .ok (.iload_n 2, 1) := by decide +kernel
theorem dX10_of_9 : decode cX10_of 9 = .ok (.i2l, 1) := by decide +kernel
theorem dX10_of_10 : decode cX10_of 10 = .ok (.lconst 0, 1) := by decide +kernel
theorem dX10_of_11 : decode cX10_of 11 = .ok (.ldc2_w 259, 3) := by decide +kernel
theorem dX10_of_14 : decode cX10_of 14 = .ok (.invokestatic 74, 3) := by decide +kernel
theorem dX10_of_17 : decode cX10_of 17 = .ok (.ifCond .ne 6, 3) := by decide +kernel
theorem dX10_of_20 : decode cX10_of 20 = .ok (.ldc 84, 2) := by decide +kernel
theorem dX10_of_22 : decode cX10_of 22 = .ok (.ireturn, 1) := by decide +kernel
theorem dX10_of_23 : decode cX10_of 23 = .ok (.aload_n 0, 1) := by decide +kernel
theorem dX10_of_24 : decode cX10_of 24 = .ok (.getfield 7, 3) := by decide +kernel
theorem dX10_of_27 : decode cX10_of 27 = .ok (.aload_n 0, 1) := by decide +kernel
theorem dX10_of_28 : decode cX10_of 28 = .ok (.iload_n 1, 1) := by decide +kernel
theorem dX10_of_29 : decode cX10_of 29 = .ok (.invokevirtual 109, 3) := by decide +kernel
theorem dX10_of_32 : decode cX10_of 32 = .ok (.iaload, 1) := by decide +kernel
theorem dX10_of_33 : decode cX10_of 33 = .ok (.istore_n 3, 1) := by decide +kernel
theorem dX10_of_34 : decode cX10_of 34 = .ok (.iload_n 2, 1) := by decide +kernel
theorem dX10_of_35 : decode cX10_of 35 = .ok (.ifCond .ne 20, 3) := by decide +kernel
theorem dX10_of_38 : decode cX10_of 38 = .ok (.iload_n 3, 1) := by decide +kernel
theorem dX10_of_39 : decode cX10_of 39 = .ok (.bipush 12, 2) := by decide +kernel
theorem dX10_of_41 : decode cX10_of 41 = .ok (.if_icmp .ge 7, 3) := by decide +kernel
theorem dX10_of_44 : decode cX10_of 44 = .ok (.iconst 0, 1) := by decide +kernel
theorem dX10_of_45 : decode cX10_of 45 = .ok (.goto 42, 3) := by decide +kernel
theorem dX10_of_48 : decode cX10_of 48 = .ok (.iload_n 3, 1) := by decide +kernel
theorem dX10_of_49 : decode cX10_of 49 = .ok (.bipush 11, 2) := by decide +kernel
theorem dX10_of_51 : decode cX10_of 51 = .ok (.isub, 1) := by decide +kernel
theorem dX10_of_52 : decode cX10_of 52 = .ok (.goto 35, 3) := by decide +kernel
theorem dX10_of_55 : decode cX10_of 55 = .ok (.iload_n 2, 1) := by decide +kernel
theorem dX10_of_56 : decode cX10_of 56 = .ok (.iconst 2, 1) := by decide +kernel
theorem dX10_of_57 : decode cX10_of 57 = .ok (.if_icmp .ne 18, 3) := by decide +kernel
theorem dX10_of_60 : decode cX10_of 60 = .ok (.aload_n 0, 1) := by decide +kernel
theorem dX10_of_61 : decode cX10_of 61 = .ok (.getfield 7, 3) := by decide +kernel
theorem dX10_of_64 : decode cX10_of 64 = .ok (.aload_n 0, 1) := by decide +kernel
theorem dX10_of_65 : decode cX10_of 65 = .ok (.iload_n 1, 1) := by decide +kernel
theorem dX10_of_66 : decode cX10_of 66 = .ok (.invokevirtual 109, 3) := by decide +kernel
theorem dX10_of_69 : decode cX10_of 69 = .ok (.iconst 1, 1) := by decide +kernel
theorem dX10_of_70 : decode cX10_of 70 = .ok (.iadd, 1) := by decide +kernel
theorem dX10_of_71 : decode cX10_of 71 = .ok (.iaload, 1) := by decide +kernel
theorem dX10_of_72 : decode cX10_of 72 = .ok (.goto 15, 3) := by decide +kernel
theorem dX10_of_75 : decode cX10_of 75 = .ok (.iload_n 3, 1) := by decide +kernel
theorem dX10_of_76 : decode cX10_of 76 = .ok (.bipush 12, 2) := by decide +kernel
theorem dX10_of_78 : decode cX10_of 78 = .ok (.if_icmp .ge 7, 3) := by decide +kernel
theorem dX10_of_81 : decode cX10_of 81 = .ok (.iload_n 3, 1) := by decide +kernel
theorem dX10_of_82 : decode cX10_of 82 = .ok (.goto 5, 3) := by decide +kernel
theorem dX10_of_85 : decode cX10_of 85 = .ok (.ldc 73, 2) := by decide +kernel
theorem dX10_of_87 : decode cX10_of 87 = .ok (.ireturn, 1) := by decide +kernel
theorem dX10_why_0 : decode cX10_why 0 = .ok (.iload_n 1, 1) := by decide +kernel
theorem dX10_why_1 : decode cX10_why 1 = .ok (.i2l, 1) := by decide +kernel
theorem dX10_why_2 : decode cX10_why 2 = .ok (.lconst 0, 1) := by decide +kernel
theorem dX10_why_3 : decode cX10_why 3 = .ok (.ldc2_w 259, 3) := by decide +kernel
theorem dX10_why_6 : decode cX10_why 6 = .ok (.invokestatic 74, 3) := by decide +kernel
theorem dX10_why_9 : decode cX10_why 9 = .ok (.ifCond .eq 19, 3) := by decide +kernel
theorem dX10_why_12 : decode cX10_why 12 = .ok (.iload_n 1, 1) := by decide +kernel
theorem dX10_why_13 : decode cX10_why 13 = .ok (.ifCond .ne 18, 3) := by decide +kernel
theorem dX10_why_16 : decode cX10_why 16 = .ok (.iload_n 2, 1) := by decide +kernel
theorem dX10_why_17 : decode cX10_why 17 = .ok (.i2l, 1) := by decide +kernel
theorem dX10_why_18 : decode cX10_why 18 = .ok (.lconst 0, 1) := by decide +kernel
theorem dX10_why_19 : decode cX10_why 19 = .ok (.ldc2_w 261, 3) := by decide +kernel
theorem dX10_why_22 : decode cX10_why 22 = .ok (.invokestatic 74, 3) := by decide +kernel
theorem dX10_why_25 : decode cX10_why 25 = .ok (.ifCond .ne 6, 3) := by decide +kernel
theorem dX10_why_28 : decode cX10_why 28 = .ok (.ldc 84, 2) := by decide +kernel
theorem dX10_why_30 : decode cX10_why 30 = .ok (.ireturn, 1) := by decide +kernel
theorem dX10_why_31 : decode cX10_why 31 = .ok (.aload_n 0, 1) := by decide +kernel
theorem dX10_why_32 : decode cX10_why 32 = .ok (.iload_n 1, 1) := by decide +kernel
theorem dX10_why_33 : decode cX10_why 33 = .ok (.ifCond .ne 7, 3) := by decide +kernel
theorem dX10_why_36 : decode cX10_why 36 = .ok (.iload_n 2, 1) := by decide +kernel
theorem dX10_why_37 : decode cX10_why 37 = .ok (.goto 7, 3) := by decide +kernel
theorem dX10_why_40 : decode cX10_why 40 = .ok (.iload_n 1, 1) := by decide +kernel
theorem dX10_why_41 : decode cX10_why 41 = .ok (.bipush 11, 2) := by decide +kernel
theorem dX10_why_43 : decode cX10_why 43 = .ok (.iadd, 1) := by decide +kernel
theorem dX10_why_44 : decode cX10_why 44 = .ok (.invokevirtual 112, 3) := by decide +kernel
theorem dX10_why_47 : decode cX10_why 47 = .ok (.invokestatic 141, 3) := by decide +kernel
theorem dX10_why_50 : decode cX10_why 50 = .ok (.ireturn, 1) := by decide +kernel
theorem dX10_joined_0 : decode cX10_joined 0 = .ok (.iload_n 0, 1) := by decide +kernel
theorem dX10_joined_1 : decode cX10_joined 1 = .ok (.tableswitch 196 38 62 #[182, 196, 196, 196, 123, 115, 196, 119, 196, 127, 196, 196, 196, 196, 196, 196, 196, 196, 196, 196, 196, 196, 149, 171, 160], 115) := by decide +kernel
theorem dX10_joined_116 : decode cX10_joined 116 = .ok (.iload_n 1, 1) := by decide +kernel
theorem dX10_joined_117 : decode cX10_joined 117 = .ok (.iload_n 2, 1) := by decide +kernel
theorem dX10_joined_118 : decode cX10_joined 118 = .ok (.iadd, 1) := by decide +kernel
theorem dX10_joined_119 : decode cX10_joined 119 = .ok (.ireturn, 1) := by decide +kernel
theorem dX10_joined_120 : decode cX10_joined 120 = .ok (.iload_n 1, 1) := by decide +kernel
theorem dX10_joined_121 : decode cX10_joined 121 = .ok (.iload_n 2, 1) := by decide +kernel
theorem dX10_joined_122 : decode cX10_joined 122 = .ok (.isub, 1) := by decide +kernel
theorem dX10_joined_123 : decode cX10_joined 123 = .ok (.ireturn, 1) := by decide +kernel
theorem dX10_joined_124 : decode cX10_joined 124 = .ok (.iload_n 1, 1) := by decide +kernel
theorem dX10_joined_125 : decode cX10_joined 125 = .ok (.iload_n 2, 1) := by decide +kernel
theorem dX10_joined_126 : decode cX10_joined 126 = .ok (.imul, 1) := by decide +kernel
theorem dX10_joined_127 : decode cX10_joined 127 = .ok (.ireturn, 1) := by decide +kernel
theorem dX10_joined_128 : decode cX10_joined 128 = .ok (.iload_n 2, 1) := by decide +kernel
theorem dX10_joined_129 : decode cX10_joined 129 = .ok (.ifCond .ne 7, 3) := by decide +kernel
theorem dX10_joined_132 : decode cX10_joined 132 = .ok (.iconst 0, 1) := by decide +kernel
theorem dX10_joined_133 : decode cX10_joined 133 = .ok (.goto 16, 3) := by decide +kernel
theorem dX10_joined_136 : decode cX10_joined 136 = .ok (.iload_n 2, 1) := by decide +kernel
theorem dX10_joined_137 : decode cX10_joined 137 = .ok (.iconst (-1), 1) := by decide +kernel
theorem dX10_joined_138 : decode cX10_joined 138 = .ok (.if_icmp .ne 8, 3) := by decide +kernel
theorem dX10_joined_141 : decode cX10_joined 141 = .ok (.iload_n 1, 1) := by decide +kernel
theorem dX10_joined_142 : decode cX10_joined 142 = .ok (.ineg, 1) := by decide +kernel
theorem dX10_joined_143 : decode cX10_joined 143 = .ok (.goto 6, 3) := by decide +kernel
theorem dX10_joined_146 : decode cX10_joined 146 = .ok (.iload_n 1, 1) := by decide +kernel
theorem dX10_joined_147 : decode cX10_joined 147 = .ok (.iload_n 2, 1) := by decide +kernel
theorem dX10_joined_148 : decode cX10_joined 148 = .ok (.idiv, 1) := by decide +kernel
theorem dX10_joined_149 : decode cX10_joined 149 = .ok (.ireturn, 1) := by decide +kernel
theorem dX10_joined_150 : decode cX10_joined 150 = .ok (.iload_n 1, 1) := by decide +kernel
theorem dX10_joined_151 : decode cX10_joined 151 = .ok (.iload_n 2, 1) := by decide +kernel
theorem dX10_joined_152 : decode cX10_joined 152 = .ok (.if_icmp .ge 7, 3) := by decide +kernel
theorem dX10_joined_155 : decode cX10_joined 155 = .ok (.iconst 1, 1) := by decide +kernel
theorem dX10_joined_156 : decode cX10_joined 156 = .ok (.goto 4, 3) := by decide +kernel
theorem dX10_joined_159 : decode cX10_joined 159 = .ok (.iconst 0, 1) := by decide +kernel
theorem dX10_joined_160 : decode cX10_joined 160 = .ok (.ireturn, 1) := by decide +kernel
theorem dX10_joined_161 : decode cX10_joined 161 = .ok (.iload_n 1, 1) := by decide +kernel
theorem dX10_joined_162 : decode cX10_joined 162 = .ok (.iload_n 2, 1) := by decide +kernel
theorem dX10_joined_163 : decode cX10_joined 163 = .ok (.if_icmp .le 7, 3) := by decide +kernel
theorem dX10_joined_166 : decode cX10_joined 166 = .ok (.iconst 1, 1) := by decide +kernel
theorem dX10_joined_167 : decode cX10_joined 167 = .ok (.goto 4, 3) := by decide +kernel
theorem dX10_joined_170 : decode cX10_joined 170 = .ok (.iconst 0, 1) := by decide +kernel
theorem dX10_joined_171 : decode cX10_joined 171 = .ok (.ireturn, 1) := by decide +kernel
theorem dX10_joined_172 : decode cX10_joined 172 = .ok (.iload_n 1, 1) := by decide +kernel
theorem dX10_joined_173 : decode cX10_joined 173 = .ok (.iload_n 2, 1) := by decide +kernel
theorem dX10_joined_174 : decode cX10_joined 174 = .ok (.if_icmp .ne 7, 3) := by decide +kernel
theorem dX10_joined_177 : decode cX10_joined 177 = .ok (.iconst 1, 1) := by decide +kernel
theorem dX10_joined_178 : decode cX10_joined 178 = .ok (.goto 4, 3) := by decide +kernel
theorem dX10_joined_181 : decode cX10_joined 181 = .ok (.iconst 0, 1) := by decide +kernel
theorem dX10_joined_182 : decode cX10_joined 182 = .ok (.ireturn, 1) := by decide +kernel
theorem dX10_joined_183 : decode cX10_joined 183 = .ok (.iload_n 1, 1) := by decide +kernel
theorem dX10_joined_184 : decode cX10_joined 184 = .ok (.ifCond .eq 11, 3) := by decide +kernel
theorem dX10_joined_187 : decode cX10_joined 187 = .ok (.iload_n 2, 1) := by decide +kernel
theorem dX10_joined_188 : decode cX10_joined 188 = .ok (.ifCond .eq 7, 3) := by decide +kernel
theorem dX10_joined_191 : decode cX10_joined 191 = .ok (.iconst 1, 1) := by decide +kernel
theorem dX10_joined_192 : decode cX10_joined 192 = .ok (.goto 4, 3) := by decide +kernel
theorem dX10_joined_195 : decode cX10_joined 195 = .ok (.iconst 0, 1) := by decide +kernel
theorem dX10_joined_196 : decode cX10_joined 196 = .ok (.ireturn, 1) := by decide +kernel
theorem dX10_joined_197 : decode cX10_joined 197 = .ok (.iload_n 1, 1) := by decide +kernel
theorem dX10_joined_198 : decode cX10_joined 198 = .ok (.ifCond .ne 7, 3) := by decide +kernel
theorem dX10_joined_201 : decode cX10_joined 201 = .ok (.iload_n 2, 1) := by decide +kernel
theorem dX10_joined_202 : decode cX10_joined 202 = .ok (.ifCond .eq 7, 3) := by decide +kernel
theorem dX10_joined_205 : decode cX10_joined 205 = .ok (.iconst 1, 1) := by decide +kernel
theorem dX10_joined_206 : decode cX10_joined 206 = .ok (.goto 4, 3) := by decide +kernel
theorem dX10_joined_209 : decode cX10_joined 209 = .ok (.iconst 0, 1) := by decide +kernel
theorem dX10_joined_210 : decode cX10_joined 210 = .ok (.ireturn, 1) := by decide +kernel
theorem dX10_worked_0 : decode cX10_worked 0 = .ok (.iconst 0, 1) := by decide +kernel
theorem dX10_worked_1 : decode cX10_worked 1 = .ok (.istore_n 2, 1) := by decide +kernel
theorem dX10_worked_2 : decode cX10_worked 2 = .ok (.iconst 0, 1) := by decide +kernel
theorem dX10_worked_3 : decode cX10_worked 3 = .ok (.istore_n 3, 1) := by decide +kernel
theorem dX10_worked_4 : decode cX10_worked 4 = .ok (.iload_n 3, 1) := by decide +kernel
theorem dX10_worked_5 : decode cX10_worked 5 = .ok (.aload_n 0, 1) := by decide +kernel
theorem dX10_worked_6 : decode cX10_worked 6 = .ok (.getfield 7, 3) := by decide +kernel
theorem dX10_worked_9 : decode cX10_worked 9 = .ok (.aload_n 0, 1) := by decide +kernel
theorem dX10_worked_10 : decode cX10_worked 10 = .ok (.iload_n 1, 1) := by decide +kernel
theorem dX10_worked_11 : decode cX10_worked 11 = .ok (.invokevirtual 109, 3) := by decide +kernel
theorem dX10_worked_14 : decode cX10_worked 14 = .ok (.iconst 2, 1) := by decide +kernel
theorem dX10_worked_15 : decode cX10_worked 15 = .ok (.iadd, 1) := by decide +kernel
theorem dX10_worked_16 : decode cX10_worked 16 = .ok (.iaload, 1) := by decide +kernel
theorem dX10_worked_17 : decode cX10_worked 17 = .ok (.if_icmp .ge 146, 3) := by decide +kernel
theorem dX10_worked_20 : decode cX10_worked 20 = .ok (.aload_n 0, 1) := by decide +kernel
theorem dX10_worked_21 : decode cX10_worked 21 = .ok (.getfield 7, 3) := by decide +kernel
theorem dX10_worked_24 : decode cX10_worked 24 = .ok (.aload_n 0, 1) := by decide +kernel
theorem dX10_worked_25 : decode cX10_worked 25 = .ok (.iload_n 1, 1) := by decide +kernel
theorem dX10_worked_26 : decode cX10_worked 26 = .ok (.invokevirtual 109, 3) := by decide +kernel
theorem dX10_worked_29 : decode cX10_worked 29 = .ok (.iconst 4, 1) := by decide +kernel
theorem dX10_worked_30 : decode cX10_worked 30 = .ok (.iadd, 1) := by decide +kernel
theorem dX10_worked_31 : decode cX10_worked 31 = .ok (.iconst 2, 1) := by decide +kernel
theorem dX10_worked_32 : decode cX10_worked 32 = .ok (.iload_n 3, 1) := by decide +kernel
theorem dX10_worked_33 : decode cX10_worked 33 = .ok (.imul, 1) := by decide +kernel
theorem dX10_worked_34 : decode cX10_worked 34 = .ok (.iadd, 1) := by decide +kernel
theorem dX10_worked_35 : decode cX10_worked 35 = .ok (.iaload, 1) := by decide +kernel
theorem dX10_worked_36 : decode cX10_worked 36 = .ok (.istore 4, 2) := by decide +kernel
theorem dX10_worked_38 : decode cX10_worked 38 = .ok (.aload_n 0, 1) := by decide +kernel
theorem dX10_worked_39 : decode cX10_worked 39 = .ok (.getfield 7, 3) := by decide +kernel
theorem dX10_worked_42 : decode cX10_worked 42 = .ok (.aload_n 0, 1) := by decide +kernel
theorem dX10_worked_43 : decode cX10_worked 43 = .ok (.iload_n 1, 1) := by decide +kernel
theorem dX10_worked_44 : decode cX10_worked 44 = .ok (.invokevirtual 109, 3) := by decide +kernel
theorem dX10_worked_47 : decode cX10_worked 47 = .ok (.iconst 4, 1) := by decide +kernel
theorem dX10_worked_48 : decode cX10_worked 48 = .ok (.iadd, 1) := by decide +kernel
theorem dX10_worked_49 : decode cX10_worked 49 = .ok (.iconst 2, 1) := by decide +kernel
theorem dX10_worked_50 : decode cX10_worked 50 = .ok (.iload_n 3, 1) := by decide +kernel
theorem dX10_worked_51 : decode cX10_worked 51 = .ok (.imul, 1) := by decide +kernel
theorem dX10_worked_52 : decode cX10_worked 52 = .ok (.iadd, 1) := by decide +kernel
theorem dX10_worked_53 : decode cX10_worked 53 = .ok (.iconst 1, 1) := by decide +kernel
theorem dX10_worked_54 : decode cX10_worked 54 = .ok (.iadd, 1) := by decide +kernel
theorem dX10_worked_55 : decode cX10_worked 55 = .ok (.iaload, 1) := by decide +kernel
theorem dX10_worked_56 : decode cX10_worked 56 = .ok (.istore 5, 2) := by decide +kernel
theorem dX10_worked_58 : decode cX10_worked 58 = .ok (.iload 4, 2) := by decide +kernel
theorem dX10_worked_60 : decode cX10_worked 60 = .ok (.iconst 2, 1) := by decide +kernel
theorem dX10_worked_61 : decode cX10_worked 61 = .ok (.if_icmp .eq 32, 3) := by decide +kernel
theorem dX10_worked_64 : decode cX10_worked 64 = .ok (.aload_n 0, 1) := by decide +kernel
theorem dX10_worked_65 : decode cX10_worked 65 = .ok (.getfield 49, 3) := by decide +kernel
theorem dX10_worked_68 : decode cX10_worked 68 = .ok (.iload_n 2, 1) := by decide +kernel
theorem dX10_worked_69 : decode cX10_worked 69 = .ok (.iload 4, 2) := by decide +kernel
theorem dX10_worked_71 : decode cX10_worked 71 = .ok (.ifCond .ne 8, 3) := by decide +kernel
theorem dX10_worked_74 : decode cX10_worked 74 = .ok (.iload 5, 2) := by decide +kernel
theorem dX10_worked_76 : decode cX10_worked 76 = .ok (.goto 10, 3) := by decide +kernel
theorem dX10_worked_79 : decode cX10_worked 79 = .ok (.aload_n 0, 1) := by decide +kernel
theorem dX10_worked_80 : decode cX10_worked 80 = .ok (.getfield 46, 3) := by decide +kernel
theorem dX10_worked_83 : decode cX10_worked 83 = .ok (.iload 5, 2) := by decide +kernel
theorem dX10_worked_85 : decode cX10_worked 85 = .ok (.iaload, 1) := by decide +kernel
theorem dX10_worked_86 : decode cX10_worked 86 = .ok (.iastore, 1) := by decide +kernel
theorem dX10_worked_87 : decode cX10_worked 87 = .ok (.iinc 2 1, 3) := by decide +kernel
theorem dX10_worked_90 : decode cX10_worked 90 = .ok (.goto 67, 3) := by decide +kernel
theorem dX10_worked_93 : decode cX10_worked 93 = .ok (.iload 5, 2) := by decide +kernel
theorem dX10_worked_95 : decode cX10_worked 95 = .ok (.bipush 33, 2) := by decide +kernel
theorem dX10_worked_97 : decode cX10_worked 97 = .ok (.if_icmp .ne 30, 3) := by decide +kernel
theorem dX10_worked_100 : decode cX10_worked 100 = .ok (.aload_n 0, 1) := by decide +kernel
theorem dX10_worked_101 : decode cX10_worked 101 = .ok (.getfield 49, 3) := by decide +kernel
theorem dX10_worked_104 : decode cX10_worked 104 = .ok (.iload_n 2, 1) := by decide +kernel
theorem dX10_worked_105 : decode cX10_worked 105 = .ok (.iconst 1, 1) := by decide +kernel
theorem dX10_worked_106 : decode cX10_worked 106 = .ok (.isub, 1) := by decide +kernel
theorem dX10_worked_107 : decode cX10_worked 107 = .ok (.aload_n 0, 1) := by decide +kernel
theorem dX10_worked_108 : decode cX10_worked 108 = .ok (.getfield 49, 3) := by decide +kernel
theorem dX10_worked_111 : decode cX10_worked 111 = .ok (.iload_n 2, 1) := by decide +kernel
theorem dX10_worked_112 : decode cX10_worked 112 = .ok (.iconst 1, 1) := by decide +kernel
theorem dX10_worked_113 : decode cX10_worked 113 = .ok (.isub, 1) := by decide +kernel
theorem dX10_worked_114 : decode cX10_worked 114 = .ok (.iaload, 1) := by decide +kernel
theorem dX10_worked_115 : decode cX10_worked 115 = .ok (.ifCond .ne 7, 3) := by decide +kernel
theorem dX10_worked_118 : decode cX10_worked 118 = .ok (.iconst 1, 1) := by decide +kernel
theorem dX10_worked_119 : decode cX10_worked 119 = .ok (.goto 4, 3) := by decide +kernel
theorem dX10_worked_122 : decode cX10_worked 122 = .ok (.iconst 0, 1) := by decide +kernel
theorem dX10_worked_123 : decode cX10_worked 123 = .ok (.iastore, 1) := by decide +kernel
theorem dX10_worked_124 : decode cX10_worked 124 = .ok (.goto 33, 3) := by decide +kernel
theorem dX10_worked_127 : decode cX10_worked 127 = .ok (.iinc 2 (-1), 3) := by decide +kernel
theorem dX10_worked_130 : decode cX10_worked 130 = .ok (.aload_n 0, 1) := by decide +kernel
theorem dX10_worked_131 : decode cX10_worked 131 = .ok (.getfield 49, 3) := by decide +kernel
theorem dX10_worked_134 : decode cX10_worked 134 = .ok (.iload_n 2, 1) := by decide +kernel
theorem dX10_worked_135 : decode cX10_worked 135 = .ok (.iconst 1, 1) := by decide +kernel
theorem dX10_worked_136 : decode cX10_worked 136 = .ok (.isub, 1) := by decide +kernel
theorem dX10_worked_137 : decode cX10_worked 137 = .ok (.iload 5, 2) := by decide +kernel
theorem dX10_worked_139 : decode cX10_worked 139 = .ok (.aload_n 0, 1) := by decide +kernel
theorem dX10_worked_140 : decode cX10_worked 140 = .ok (.getfield 49, 3) := by decide +kernel
theorem dX10_worked_143 : decode cX10_worked 143 = .ok (.iload_n 2, 1) := by decide +kernel
theorem dX10_worked_144 : decode cX10_worked 144 = .ok (.iconst 1, 1) := by decide +kernel
theorem dX10_worked_145 : decode cX10_worked 145 = .ok (.isub, 1) := by decide +kernel
theorem dX10_worked_146 : decode cX10_worked 146 = .ok (.iaload, 1) := by decide +kernel
theorem dX10_worked_147 : decode cX10_worked 147 = .ok (.aload_n 0, 1) := by decide +kernel
theorem dX10_worked_148 : decode cX10_worked 148 = .ok (.getfield 49, 3) := by decide +kernel
theorem dX10_worked_151 : decode cX10_worked 151 = .ok (.iload_n 2, 1) := by decide +kernel
theorem dX10_worked_152 : decode cX10_worked 152 = .ok (.iaload, 1) := by decide +kernel
theorem dX10_worked_153 : decode cX10_worked 153 = .ok (.invokestatic 263, 3) := by decide +kernel
theorem dX10_worked_156 : decode cX10_worked 156 = .ok (.iastore, 1) := by decide +kernel
theorem dX10_worked_157 : decode cX10_worked 157 = .ok (.iinc 3 1, 3) := by decide +kernel
theorem dX10_worked_160 : decode cX10_worked 160 = .ok (.goto (-156), 3) := by decide +kernel
theorem dX10_worked_163 : decode cX10_worked 163 = .ok (.aload_n 0, 1) := by decide +kernel
theorem dX10_worked_164 : decode cX10_worked 164 = .ok (.getfield 49, 3) := by decide +kernel
theorem dX10_worked_167 : decode cX10_worked 167 = .ok (.iconst 0, 1) := by decide +kernel
theorem dX10_worked_168 : decode cX10_worked 168 = .ok (.iaload, 1) := by decide +kernel
theorem dX10_worked_169 : decode cX10_worked 169 = .ok (.ireturn, 1) := by decide +kernel
theorem dX10_line_0 : decode cX10_line 0 = .ok (.iload_n 1, 1) := by decide +kernel
theorem dX10_line_1 : decode cX10_line 1 = .ok (.i2l, 1) := by decide +kernel
theorem dX10_line_2 : decode cX10_line 2 = .ok (.lconst 0, 1) := by decide +kernel
theorem dX10_line_3 : decode cX10_line 3 = .ok (.ldc2_w 267, 3) := by decide +kernel
theorem dX10_line_6 : decode cX10_line 6 = .ok (.invokestatic 74, 3) := by decide +kernel
theorem dX10_line_9 : decode cX10_line 9 = .ok (.ifCond .eq 11, 3) := by decide +kernel
theorem dX10_line_12 : decode cX10_line 12 = .ok (.aload_n 0, 1) := by decide +kernel
theorem dX10_line_13 : decode cX10_line 13 = .ok (.iload_n 2, 1) := by decide +kernel
theorem dX10_line_14 : decode cX10_line 14 = .ok (.invokevirtual 102, 3) := by decide +kernel
theorem dX10_line_17 : decode cX10_line 17 = .ok (.ifCond .ne 6, 3) := by decide +kernel
theorem dX10_line_20 : decode cX10_line 20 = .ok (.ldc 84, 2) := by decide +kernel
theorem dX10_line_22 : decode cX10_line 22 = .ok (.ireturn, 1) := by decide +kernel
theorem dX10_line_23 : decode cX10_line 23 = .ok (.aload_n 0, 1) := by decide +kernel
theorem dX10_line_24 : decode cX10_line 24 = .ok (.iload_n 1, 1) := by decide +kernel
theorem dX10_line_25 : decode cX10_line 25 = .ok (.invokevirtual 269, 3) := by decide +kernel
theorem dX10_line_28 : decode cX10_line 28 = .ok (.istore_n 3, 1) := by decide +kernel
theorem dX10_line_29 : decode cX10_line 29 = .ok (.aload_n 0, 1) := by decide +kernel
theorem dX10_line_30 : decode cX10_line 30 = .ok (.getfield 7, 3) := by decide +kernel
theorem dX10_line_33 : decode cX10_line 33 = .ok (.iload_n 3, 1) := by decide +kernel
theorem dX10_line_34 : decode cX10_line 34 = .ok (.iaload, 1) := by decide +kernel
theorem dX10_line_35 : decode cX10_line 35 = .ok (.ifCond .eq 38, 3) := by decide +kernel
theorem dX10_line_38 : decode cX10_line 38 = .ok (.aload_n 0, 1) := by decide +kernel
theorem dX10_line_39 : decode cX10_line 39 = .ok (.getfield 7, 3) := by decide +kernel
theorem dX10_line_42 : decode cX10_line 42 = .ok (.aload_n 0, 1) := by decide +kernel
theorem dX10_line_43 : decode cX10_line 43 = .ok (.iload_n 2, 1) := by decide +kernel
theorem dX10_line_44 : decode cX10_line 44 = .ok (.invokevirtual 87, 3) := by decide +kernel
theorem dX10_line_47 : decode cX10_line 47 = .ok (.iaload, 1) := by decide +kernel
theorem dX10_line_48 : decode cX10_line 48 = .ok (.aload_n 0, 1) := by decide +kernel
theorem dX10_line_49 : decode cX10_line 49 = .ok (.getfield 7, 3) := by decide +kernel
theorem dX10_line_52 : decode cX10_line 52 = .ok (.aload_n 0, 1) := by decide +kernel
theorem dX10_line_53 : decode cX10_line 53 = .ok (.aload_n 0, 1) := by decide +kernel
theorem dX10_line_54 : decode cX10_line 54 = .ok (.getfield 7, 3) := by decide +kernel
theorem dX10_line_57 : decode cX10_line 57 = .ok (.iload_n 3, 1) := by decide +kernel
theorem dX10_line_58 : decode cX10_line 58 = .ok (.aload_n 0, 1) := by decide +kernel
theorem dX10_line_59 : decode cX10_line 59 = .ok (.getfield 7, 3) := by decide +kernel
theorem dX10_line_62 : decode cX10_line 62 = .ok (.iload_n 3, 1) := by decide +kernel
theorem dX10_line_63 : decode cX10_line 63 = .ok (.iaload, 1) := by decide +kernel
theorem dX10_line_64 : decode cX10_line 64 = .ok (.iadd, 1) := by decide +kernel
theorem dX10_line_65 : decode cX10_line 65 = .ok (.iaload, 1) := by decide +kernel
theorem dX10_line_66 : decode cX10_line 66 = .ok (.invokevirtual 87, 3) := by decide +kernel
theorem dX10_line_69 : decode cX10_line 69 = .ok (.iaload, 1) := by decide +kernel
theorem dX10_line_70 : decode cX10_line 70 = .ok (.if_icmp .le 7, 3) := by decide +kernel
theorem dX10_line_73 : decode cX10_line 73 = .ok (.iconst 1, 1) := by decide +kernel
theorem dX10_line_74 : decode cX10_line 74 = .ok (.goto 4, 3) := by decide +kernel
theorem dX10_line_77 : decode cX10_line 77 = .ok (.iconst 0, 1) := by decide +kernel
theorem dX10_line_78 : decode cX10_line 78 = .ok (.istore 4, 2) := by decide +kernel
theorem dX10_line_80 : decode cX10_line 80 = .ok (.aload_n 0, 1) := by decide +kernel
theorem dX10_line_81 : decode cX10_line 81 = .ok (.getfield 7, 3) := by decide +kernel
theorem dX10_line_84 : decode cX10_line 84 = .ok (.aload_n 0, 1) := by decide +kernel
theorem dX10_line_85 : decode cX10_line 85 = .ok (.iload_n 2, 1) := by decide +kernel
theorem dX10_line_86 : decode cX10_line 86 = .ok (.invokevirtual 87, 3) := by decide +kernel
theorem dX10_line_89 : decode cX10_line 89 = .ok (.iconst 5, 1) := by decide +kernel
theorem dX10_line_90 : decode cX10_line 90 = .ok (.iadd, 1) := by decide +kernel
theorem dX10_line_91 : decode cX10_line 91 = .ok (.iaload, 1) := by decide +kernel
theorem dX10_line_92 : decode cX10_line 92 = .ok (.ifCond .ge 8, 3) := by decide +kernel
theorem dX10_line_95 : decode cX10_line 95 = .ok (.iload 4, 2) := by decide +kernel
theorem dX10_line_97 : decode cX10_line 97 = .ok (.ifCond .ne 6, 3) := by decide +kernel
theorem dX10_line_100 : decode cX10_line 100 = .ok (.ldc 85, 2) := by decide +kernel
theorem dX10_line_102 : decode cX10_line 102 = .ok (.ireturn, 1) := by decide +kernel
theorem dX10_line_103 : decode cX10_line 103 = .ok (.aload_n 0, 1) := by decide +kernel
theorem dX10_line_104 : decode cX10_line 104 = .ok (.getfield 7, 3) := by decide +kernel
theorem dX10_line_107 : decode cX10_line 107 = .ok (.iload_n 3, 1) := by decide +kernel
theorem dX10_line_108 : decode cX10_line 108 = .ok (.iaload, 1) := by decide +kernel
theorem dX10_line_109 : decode cX10_line 109 = .ok (.bipush 12, 2) := by decide +kernel
theorem dX10_line_111 : decode cX10_line 111 = .ok (.if_icmp .ne 6, 3) := by decide +kernel
theorem dX10_line_114 : decode cX10_line 114 = .ok (.ldc 86, 2) := by decide +kernel
theorem dX10_line_116 : decode cX10_line 116 = .ok (.ireturn, 1) := by decide +kernel
theorem dX10_line_117 : decode cX10_line 117 = .ok (.aload_n 0, 1) := by decide +kernel
theorem dX10_line_118 : decode cX10_line 118 = .ok (.getfield 7, 3) := by decide +kernel
theorem dX10_line_121 : decode cX10_line 121 = .ok (.iload_n 3, 1) := by decide +kernel
theorem dX10_line_122 : decode cX10_line 122 = .ok (.dup2, 1) := by decide +kernel
theorem dX10_line_123 : decode cX10_line 123 = .ok (.iaload, 1) := by decide +kernel
theorem dX10_line_124 : decode cX10_line 124 = .ok (.iconst 1, 1) := by decide +kernel
theorem dX10_line_125 : decode cX10_line 125 = .ok (.iadd, 1) := by decide +kernel
theorem dX10_line_126 : decode cX10_line 126 = .ok (.iastore, 1) := by decide +kernel
theorem dX10_line_127 : decode cX10_line 127 = .ok (.aload_n 0, 1) := by decide +kernel
theorem dX10_line_128 : decode cX10_line 128 = .ok (.getfield 7, 3) := by decide +kernel
theorem dX10_line_131 : decode cX10_line 131 = .ok (.iload_n 3, 1) := by decide +kernel
theorem dX10_line_132 : decode cX10_line 132 = .ok (.aload_n 0, 1) := by decide +kernel
theorem dX10_line_133 : decode cX10_line 133 = .ok (.getfield 7, 3) := by decide +kernel
theorem dX10_line_136 : decode cX10_line 136 = .ok (.iload_n 3, 1) := by decide +kernel
theorem dX10_line_137 : decode cX10_line 137 = .ok (.iaload, 1) := by decide +kernel
theorem dX10_line_138 : decode cX10_line 138 = .ok (.iadd, 1) := by decide +kernel
theorem dX10_line_139 : decode cX10_line 139 = .ok (.iload_n 2, 1) := by decide +kernel
theorem dX10_line_140 : decode cX10_line 140 = .ok (.iastore, 1) := by decide +kernel
theorem dX10_line_141 : decode cX10_line 141 = .ok (.aload_n 0, 1) := by decide +kernel
theorem dX10_line_142 : decode cX10_line 142 = .ok (.getfield 7, 3) := by decide +kernel
theorem dX10_line_145 : decode cX10_line 145 = .ok (.aload_n 0, 1) := by decide +kernel
theorem dX10_line_146 : decode cX10_line 146 = .ok (.iload_n 2, 1) := by decide +kernel
theorem dX10_line_147 : decode cX10_line 147 = .ok (.invokevirtual 87, 3) := by decide +kernel
theorem dX10_line_150 : decode cX10_line 150 = .ok (.iconst 5, 1) := by decide +kernel
theorem dX10_line_151 : decode cX10_line 151 = .ok (.iadd, 1) := by decide +kernel
theorem dX10_line_152 : decode cX10_line 152 = .ok (.iload_n 1, 1) := by decide +kernel
theorem dX10_line_153 : decode cX10_line 153 = .ok (.iastore, 1) := by decide +kernel
theorem dX10_line_154 : decode cX10_line 154 = .ok (.aload_n 0, 1) := by decide +kernel
theorem dX10_line_155 : decode cX10_line 155 = .ok (.getfield 7, 3) := by decide +kernel
theorem dX10_line_158 : decode cX10_line 158 = .ok (.iload_n 3, 1) := by decide +kernel
theorem dX10_line_159 : decode cX10_line 159 = .ok (.iaload, 1) := by decide +kernel
theorem dX10_line_160 : decode cX10_line 160 = .ok (.ireturn, 1) := by decide +kernel
theorem dX10_placed_0 : decode cX10_placed 0 = .ok (.iload_n 1, 1) := by decide +kernel
theorem dX10_placed_1 : decode cX10_placed 1 = .ok (.iconst 4, 1) := by decide +kernel
theorem dX10_placed_2 : decode cX10_placed 2 = .ok (.if_icmp .ne 7, 3) := by decide +kernel
theorem dX10_placed_5 : decode cX10_placed 5 = .ok (.iload_n 0, 1) := by decide +kernel
theorem dX10_placed_6 : decode cX10_placed 6 = .ok (.goto 32, 3) := by decide +kernel
theorem dX10_placed_9 : decode cX10_placed 9 = .ok (.iload_n 1, 1) := by decide +kernel
theorem dX10_placed_10 : decode cX10_placed 10 = .ok (.iconst 3, 1) := by decide +kernel
theorem dX10_placed_11 : decode cX10_placed 11 = .ok (.if_icmp .ne 10, 3) := by decide +kernel
theorem dX10_placed_14 : decode cX10_placed 14 = .ok (.iload_n 0, 1) := by decide +kernel
theorem dX10_placed_15 : decode cX10_placed 15 = .ok (.bipush 10, 2) := by decide +kernel
theorem dX10_placed_17 : decode cX10_placed 17 = .ok (.idiv, 1) := by decide +kernel
theorem dX10_placed_18 : decode cX10_placed 18 = .ok (.goto 20, 3) := by decide +kernel
theorem dX10_placed_21 : decode cX10_placed 21 = .ok (.iload_n 1, 1) := by decide +kernel
theorem dX10_placed_22 : decode cX10_placed 22 = .ok (.iconst 2, 1) := by decide +kernel
theorem dX10_placed_23 : decode cX10_placed 23 = .ok (.if_icmp .ne 10, 3) := by decide +kernel
theorem dX10_placed_26 : decode cX10_placed 26 = .ok (.iload_n 0, 1) := by decide +kernel
theorem dX10_placed_27 : decode cX10_placed 27 = .ok (.bipush 100, 2) := by decide +kernel
theorem dX10_placed_29 : decode cX10_placed 29 = .ok (.idiv, 1) := by decide +kernel
theorem dX10_placed_30 : decode cX10_placed 30 = .ok (.goto 8, 3) := by decide +kernel
theorem dX10_placed_33 : decode cX10_placed 33 = .ok (.iload_n 0, 1) := by decide +kernel
theorem dX10_placed_34 : decode cX10_placed 34 = .ok (.sipush 1000, 3) := by decide +kernel
theorem dX10_placed_37 : decode cX10_placed 37 = .ok (.idiv, 1) := by decide +kernel
theorem dX10_placed_38 : decode cX10_placed 38 = .ok (.ireturn, 1) := by decide +kernel
theorem dX10_inLine_0 : decode cX10_inLine 0 = .ok (.aload_n 0, 1) := by decide +kernel
theorem dX10_inLine_1 : decode cX10_inLine 1 = .ok (.getfield 7, 3) := by decide +kernel
theorem dX10_inLine_4 : decode cX10_inLine 4 = .ok (.aload_n 0, 1) := by decide +kernel
theorem dX10_inLine_5 : decode cX10_inLine 5 = .ok (.aload_n 0, 1) := by decide +kernel
theorem dX10_inLine_6 : decode cX10_inLine 6 = .ok (.getfield 7, 3) := by decide +kernel
theorem dX10_inLine_9 : decode cX10_inLine 9 = .ok (.aload_n 0, 1) := by decide +kernel
theorem dX10_inLine_10 : decode cX10_inLine 10 = .ok (.iload_n 1, 1) := by decide +kernel
theorem dX10_inLine_11 : decode cX10_inLine 11 = .ok (.invokevirtual 269, 3) := by decide +kernel
theorem dX10_inLine_14 : decode cX10_inLine 14 = .ok (.iload_n 2, 1) := by decide +kernel
theorem dX10_inLine_15 : decode cX10_inLine 15 = .ok (.iadd, 1) := by decide +kernel
theorem dX10_inLine_16 : decode cX10_inLine 16 = .ok (.iaload, 1) := by decide +kernel
theorem dX10_inLine_17 : decode cX10_inLine 17 = .ok (.invokevirtual 87, 3) := by decide +kernel
theorem dX10_inLine_20 : decode cX10_inLine 20 = .ok (.iconst 2, 1) := by decide +kernel
theorem dX10_inLine_21 : decode cX10_inLine 21 = .ok (.iadd, 1) := by decide +kernel
theorem dX10_inLine_22 : decode cX10_inLine 22 = .ok (.iaload, 1) := by decide +kernel
theorem dX10_inLine_23 : decode cX10_inLine 23 = .ok (.iload_n 3, 1) := by decide +kernel
theorem dX10_inLine_24 : decode cX10_inLine 24 = .ok (.invokestatic 272, 3) := by decide +kernel
theorem dX10_inLine_27 : decode cX10_inLine 27 = .ok (.ireturn, 1) := by decide +kernel
theorem dX10_findRun_0 : decode cX10_findRun 0 = .ok (.aload_n 0, 1) := by decide +kernel
theorem dX10_findRun_1 : decode cX10_findRun 1 = .ok (.iconst 0, 1) := by decide +kernel
theorem dX10_findRun_2 : decode cX10_findRun 2 = .ok (.putfield 275, 3) := by decide +kernel
theorem dX10_findRun_5 : decode cX10_findRun 5 = .ok (.aload_n 0, 1) := by decide +kernel
theorem dX10_findRun_6 : decode cX10_findRun 6 = .ok (.iconst 0, 1) := by decide +kernel
theorem dX10_findRun_7 : decode cX10_findRun 7 = .ok (.putfield 278, 3) := by decide +kernel
theorem dX10_findRun_10 : decode cX10_findRun 10 = .ok (.iconst 0, 1) := by decide +kernel
theorem dX10_findRun_11 : decode cX10_findRun 11 = .ok (.istore_n 3, 1) := by decide +kernel
theorem dX10_findRun_12 : decode cX10_findRun 12 = .ok (.iconst 1, 1) := by decide +kernel
theorem dX10_findRun_13 : decode cX10_findRun 13 = .ok (.istore 4, 2) := by decide +kernel
theorem dX10_findRun_15 : decode cX10_findRun 15 = .ok (.iload 4, 2) := by decide +kernel
theorem dX10_findRun_17 : decode cX10_findRun 17 = .ok (.aload_n 0, 1) := by decide +kernel
theorem dX10_findRun_18 : decode cX10_findRun 18 = .ok (.getfield 7, 3) := by decide +kernel
theorem dX10_findRun_21 : decode cX10_findRun 21 = .ok (.aload_n 0, 1) := by decide +kernel
theorem dX10_findRun_22 : decode cX10_findRun 22 = .ok (.iload_n 1, 1) := by decide +kernel
theorem dX10_findRun_23 : decode cX10_findRun 23 = .ok (.invokevirtual 269, 3) := by decide +kernel
theorem dX10_findRun_26 : decode cX10_findRun 26 = .ok (.iaload, 1) := by decide +kernel
theorem dX10_findRun_27 : decode cX10_findRun 27 = .ok (.if_icmp .gt 67, 3) := by decide +kernel
theorem dX10_findRun_30 : decode cX10_findRun 30 = .ok (.iload 4, 2) := by decide +kernel
theorem dX10_findRun_32 : decode cX10_findRun 32 = .ok (.iconst 1, 1) := by decide +kernel
theorem dX10_findRun_33 : decode cX10_findRun 33 = .ok (.if_icmp .le 30, 3) := by decide +kernel
theorem dX10_findRun_36 : decode cX10_findRun 36 = .ok (.aload_n 0, 1) := by decide +kernel
theorem dX10_findRun_37 : decode cX10_findRun 37 = .ok (.iload_n 1, 1) := by decide +kernel
theorem dX10_findRun_38 : decode cX10_findRun 38 = .ok (.iload 4, 2) := by decide +kernel
theorem dX10_findRun_40 : decode cX10_findRun 40 = .ok (.iload_n 2, 1) := by decide +kernel
theorem dX10_findRun_41 : decode cX10_findRun 41 = .ok (.invokevirtual 281, 3) := by decide +kernel
theorem dX10_findRun_44 : decode cX10_findRun 44 = .ok (.aload_n 0, 1) := by decide +kernel
theorem dX10_findRun_45 : decode cX10_findRun 45 = .ok (.iload_n 1, 1) := by decide +kernel
theorem dX10_findRun_46 : decode cX10_findRun 46 = .ok (.iload 4, 2) := by decide +kernel
theorem dX10_findRun_48 : decode cX10_findRun 48 = .ok (.iconst 1, 1) := by decide +kernel
theorem dX10_findRun_49 : decode cX10_findRun 49 = .ok (.isub, 1) := by decide +kernel
theorem dX10_findRun_50 : decode cX10_findRun 50 = .ok (.iload_n 2, 1) := by decide +kernel
theorem dX10_findRun_51 : decode cX10_findRun 51 = .ok (.invokevirtual 281, 3) := by decide +kernel
theorem dX10_findRun_54 : decode cX10_findRun 54 = .ok (.if_icmp .ne 9, 3) := by decide +kernel
theorem dX10_findRun_57 : decode cX10_findRun 57 = .ok (.iload_n 3, 1) := by decide +kernel
theorem dX10_findRun_58 : decode cX10_findRun 58 = .ok (.iconst 1, 1) := by decide +kernel
theorem dX10_findRun_59 : decode cX10_findRun 59 = .ok (.iadd, 1) := by decide +kernel
theorem dX10_findRun_60 : decode cX10_findRun 60 = .ok (.goto 4, 3) := by decide +kernel
theorem dX10_findRun_63 : decode cX10_findRun 63 = .ok (.iconst 1, 1) := by decide +kernel
theorem dX10_findRun_64 : decode cX10_findRun 64 = .ok (.istore_n 3, 1) := by decide +kernel
theorem dX10_findRun_65 : decode cX10_findRun 65 = .ok (.iload_n 3, 1) := by decide +kernel
theorem dX10_findRun_66 : decode cX10_findRun 66 = .ok (.aload_n 0, 1) := by decide +kernel
theorem dX10_findRun_67 : decode cX10_findRun 67 = .ok (.getfield 275, 3) := by decide +kernel
theorem dX10_findRun_70 : decode cX10_findRun 70 = .ok (.if_icmp .le 18, 3) := by decide +kernel
theorem dX10_findRun_73 : decode cX10_findRun 73 = .ok (.aload_n 0, 1) := by decide +kernel
theorem dX10_findRun_74 : decode cX10_findRun 74 = .ok (.iload_n 3, 1) := by decide +kernel
theorem dX10_findRun_75 : decode cX10_findRun 75 = .ok (.putfield 275, 3) := by decide +kernel
theorem dX10_findRun_78 : decode cX10_findRun 78 = .ok (.aload_n 0, 1) := by decide +kernel
theorem dX10_findRun_79 : decode cX10_findRun 79 = .ok (.iload 4, 2) := by decide +kernel
theorem dX10_findRun_81 : decode cX10_findRun 81 = .ok (.iload_n 3, 1) := by decide +kernel
theorem dX10_findRun_82 : decode cX10_findRun 82 = .ok (.isub, 1) := by decide +kernel
theorem dX10_findRun_83 : decode cX10_findRun 83 = .ok (.iconst 1, 1) := by decide +kernel
theorem dX10_findRun_84 : decode cX10_findRun 84 = .ok (.iadd, 1) := by decide +kernel
theorem dX10_findRun_85 : decode cX10_findRun 85 = .ok (.putfield 278, 3) := by decide +kernel
theorem dX10_findRun_88 : decode cX10_findRun 88 = .ok (.iinc 4 1, 3) := by decide +kernel
theorem dX10_findRun_91 : decode cX10_findRun 91 = .ok (.goto (-76), 3) := by decide +kernel
theorem dX10_findRun_94 : decode cX10_findRun 94 = .ok (.return_, 1) := by decide +kernel
theorem dX10_oddsOf_0 : decode cX10_oddsOf 0 = .ok (.lconst 1, 1) := by decide +kernel
theorem dX10_oddsOf_1 : decode cX10_oddsOf 1 = .ok (.lstore_n 2, 1) := by decide +kernel
theorem dX10_oddsOf_2 : decode cX10_oddsOf 2 = .ok (.iconst 1, 1) := by decide +kernel
theorem dX10_oddsOf_3 : decode cX10_oddsOf 3 = .ok (.istore 4, 2) := by decide +kernel
theorem dX10_oddsOf_5 : decode cX10_oddsOf 5 = .ok (.iload 4, 2) := by decide +kernel
theorem dX10_oddsOf_7 : decode cX10_oddsOf 7 = .ok (.aload_n 0, 1) := by decide +kernel
theorem dX10_oddsOf_8 : decode cX10_oddsOf 8 = .ok (.getfield 275, 3) := by decide +kernel
theorem dX10_oddsOf_11 : decode cX10_oddsOf 11 = .ok (.if_icmp .ge 55, 3) := by decide +kernel
theorem dX10_oddsOf_14 : decode cX10_oddsOf 14 = .ok (.lload_n 2, 1) := by decide +kernel
theorem dX10_oddsOf_15 : decode cX10_oddsOf 15 = .ok (.iconst 2, 1) := by decide +kernel
theorem dX10_oddsOf_16 : decode cX10_oddsOf 16 = .ok (.aload_n 0, 1) := by decide +kernel
theorem dX10_oddsOf_17 : decode cX10_oddsOf 17 = .ok (.aload_n 0, 1) := by decide +kernel
theorem dX10_oddsOf_18 : decode cX10_oddsOf 18 = .ok (.getfield 7, 3) := by decide +kernel
theorem dX10_oddsOf_21 : decode cX10_oddsOf 21 = .ok (.aload_n 0, 1) := by decide +kernel
theorem dX10_oddsOf_22 : decode cX10_oddsOf 22 = .ok (.iload_n 1, 1) := by decide +kernel
theorem dX10_oddsOf_23 : decode cX10_oddsOf 23 = .ok (.invokevirtual 269, 3) := by decide +kernel
theorem dX10_oddsOf_26 : decode cX10_oddsOf 26 = .ok (.aload_n 0, 1) := by decide +kernel
theorem dX10_oddsOf_27 : decode cX10_oddsOf 27 = .ok (.getfield 278, 3) := by decide +kernel
theorem dX10_oddsOf_30 : decode cX10_oddsOf 30 = .ok (.iadd, 1) := by decide +kernel
theorem dX10_oddsOf_31 : decode cX10_oddsOf 31 = .ok (.iload 4, 2) := by decide +kernel
theorem dX10_oddsOf_33 : decode cX10_oddsOf 33 = .ok (.iadd, 1) := by decide +kernel
theorem dX10_oddsOf_34 : decode cX10_oddsOf 34 = .ok (.iaload, 1) := by decide +kernel
theorem dX10_oddsOf_35 : decode cX10_oddsOf 35 = .ok (.invokevirtual 128, 3) := by decide +kernel
theorem dX10_oddsOf_38 : decode cX10_oddsOf 38 = .ok (.imul, 1) := by decide +kernel
theorem dX10_oddsOf_39 : decode cX10_oddsOf 39 = .ok (.iconst 1, 1) := by decide +kernel
theorem dX10_oddsOf_40 : decode cX10_oddsOf 40 = .ok (.iadd, 1) := by decide +kernel
theorem dX10_oddsOf_41 : decode cX10_oddsOf 41 = .ok (.i2l, 1) := by decide +kernel
theorem dX10_oddsOf_42 : decode cX10_oddsOf 42 = .ok (.lmul, 1) := by decide +kernel
theorem dX10_oddsOf_43 : decode cX10_oddsOf 43 = .ok (.lstore_n 2, 1) := by decide +kernel
theorem dX10_oddsOf_44 : decode cX10_oddsOf 44 = .ok (.lload_n 2, 1) := by decide +kernel
theorem dX10_oddsOf_45 : decode cX10_oddsOf 45 = .ok (.ldc2_w 284, 3) := by decide +kernel
theorem dX10_oddsOf_48 : decode cX10_oddsOf 48 = .ok (.lcmp, 1) := by decide +kernel
theorem dX10_oddsOf_49 : decode cX10_oddsOf 49 = .ok (.ifCond .le 9, 3) := by decide +kernel
theorem dX10_oddsOf_52 : decode cX10_oddsOf 52 = .ok (.ldc2_w 284, 3) := by decide +kernel
theorem dX10_oddsOf_55 : decode cX10_oddsOf 55 = .ok (.goto 4, 3) := by decide +kernel
theorem dX10_oddsOf_58 : decode cX10_oddsOf 58 = .ok (.lload_n 2, 1) := by decide +kernel
theorem dX10_oddsOf_59 : decode cX10_oddsOf 59 = .ok (.lstore_n 2, 1) := by decide +kernel
theorem dX10_oddsOf_60 : decode cX10_oddsOf 60 = .ok (.iinc 4 1, 3) := by decide +kernel
theorem dX10_oddsOf_63 : decode cX10_oddsOf 63 = .ok (.goto (-58), 3) := by decide +kernel
theorem dX10_oddsOf_66 : decode cX10_oddsOf 66 = .ok (.lload_n 2, 1) := by decide +kernel
theorem dX10_oddsOf_67 : decode cX10_oddsOf 67 = .ok (.l2i, 1) := by decide +kernel
theorem dX10_oddsOf_68 : decode cX10_oddsOf 68 = .ok (.ireturn, 1) := by decide +kernel
theorem dX10_run_0 : decode cX10_run 0 = .ok (.iload_n 1, 1) := by decide +kernel
theorem dX10_run_1 : decode cX10_run 1 = .ok (.i2l, 1) := by decide +kernel
theorem dX10_run_2 : decode cX10_run 2 = .ok (.lconst 0, 1) := by decide +kernel
theorem dX10_run_3 : decode cX10_run 3 = .ok (.ldc2_w 267, 3) := by decide +kernel
theorem dX10_run_6 : decode cX10_run 6 = .ok (.invokestatic 74, 3) := by decide +kernel
theorem dX10_run_9 : decode cX10_run 9 = .ok (.ifCond .eq 22, 3) := by decide +kernel
theorem dX10_run_12 : decode cX10_run 12 = .ok (.iload_n 2, 1) := by decide +kernel
theorem dX10_run_13 : decode cX10_run 13 = .ok (.invokestatic 286, 3) := by decide +kernel
theorem dX10_run_16 : decode cX10_run 16 = .ok (.ifCond .eq 15, 3) := by decide +kernel
theorem dX10_run_19 : decode cX10_run 19 = .ok (.iload_n 3, 1) := by decide +kernel
theorem dX10_run_20 : decode cX10_run 20 = .ok (.i2l, 1) := by decide +kernel
theorem dX10_run_21 : decode cX10_run 21 = .ok (.lconst 0, 1) := by decide +kernel
theorem dX10_run_22 : decode cX10_run 22 = .ok (.ldc2_w 259, 3) := by decide +kernel
theorem dX10_run_25 : decode cX10_run 25 = .ok (.invokestatic 74, 3) := by decide +kernel
theorem dX10_run_28 : decode cX10_run 28 = .ok (.ifCond .ne 6, 3) := by decide +kernel
theorem dX10_run_31 : decode cX10_run 31 = .ok (.ldc 84, 2) := by decide +kernel
theorem dX10_run_33 : decode cX10_run 33 = .ok (.ireturn, 1) := by decide +kernel
theorem dX10_run_34 : decode cX10_run 34 = .ok (.aload_n 0, 1) := by decide +kernel
theorem dX10_run_35 : decode cX10_run 35 = .ok (.iload_n 1, 1) := by decide +kernel
theorem dX10_run_36 : decode cX10_run 36 = .ok (.iload_n 2, 1) := by decide +kernel
theorem dX10_run_37 : decode cX10_run 37 = .ok (.invokevirtual 289, 3) := by decide +kernel
theorem dX10_run_40 : decode cX10_run 40 = .ok (.iload_n 3, 1) := by decide +kernel
theorem dX10_run_41 : decode cX10_run 41 = .ok (.ifCond .ne 10, 3) := by decide +kernel
theorem dX10_run_44 : decode cX10_run 44 = .ok (.aload_n 0, 1) := by decide +kernel
theorem dX10_run_45 : decode cX10_run 45 = .ok (.getfield 275, 3) := by decide +kernel
theorem dX10_run_48 : decode cX10_run 48 = .ok (.goto 43, 3) := by decide +kernel
theorem dX10_run_51 : decode cX10_run 51 = .ok (.iload_n 3, 1) := by decide +kernel
theorem dX10_run_52 : decode cX10_run 52 = .ok (.iconst 2, 1) := by decide +kernel
theorem dX10_run_53 : decode cX10_run 53 = .ok (.if_icmp .ne 11, 3) := by decide +kernel
theorem dX10_run_56 : decode cX10_run 56 = .ok (.aload_n 0, 1) := by decide +kernel
theorem dX10_run_57 : decode cX10_run 57 = .ok (.iload_n 1, 1) := by decide +kernel
theorem dX10_run_58 : decode cX10_run 58 = .ok (.invokevirtual 292, 3) := by decide +kernel
theorem dX10_run_61 : decode cX10_run 61 = .ok (.goto 30, 3) := by decide +kernel
theorem dX10_run_64 : decode cX10_run 64 = .ok (.aload_n 0, 1) := by decide +kernel
theorem dX10_run_65 : decode cX10_run 65 = .ok (.getfield 275, 3) := by decide +kernel
theorem dX10_run_68 : decode cX10_run 68 = .ok (.ifCond .ne 8, 3) := by decide +kernel
theorem dX10_run_71 : decode cX10_run 71 = .ok (.ldc 73, 2) := by decide +kernel
theorem dX10_run_73 : decode cX10_run 73 = .ok (.goto 18, 3) := by decide +kernel
theorem dX10_run_76 : decode cX10_run 76 = .ok (.aload_n 0, 1) := by decide +kernel
theorem dX10_run_77 : decode cX10_run 77 = .ok (.getfield 7, 3) := by decide +kernel
theorem dX10_run_80 : decode cX10_run 80 = .ok (.aload_n 0, 1) := by decide +kernel
theorem dX10_run_81 : decode cX10_run 81 = .ok (.iload_n 1, 1) := by decide +kernel
theorem dX10_run_82 : decode cX10_run 82 = .ok (.invokevirtual 269, 3) := by decide +kernel
theorem dX10_run_85 : decode cX10_run 85 = .ok (.aload_n 0, 1) := by decide +kernel
theorem dX10_run_86 : decode cX10_run 86 = .ok (.getfield 278, 3) := by decide +kernel
theorem dX10_run_89 : decode cX10_run 89 = .ok (.iadd, 1) := by decide +kernel
theorem dX10_run_90 : decode cX10_run 90 = .ok (.iaload, 1) := by decide +kernel
theorem dX10_run_91 : decode cX10_run 91 = .ok (.ireturn, 1) := by decide +kernel
theorem dX10_soon_0 : decode cX10_soon 0 = .ok (.iload_n 1, 1) := by decide +kernel
theorem dX10_soon_1 : decode cX10_soon 1 = .ok (.i2l, 1) := by decide +kernel
theorem dX10_soon_2 : decode cX10_soon 2 = .ok (.ldc2_w 259, 3) := by decide +kernel
theorem dX10_soon_5 : decode cX10_soon 5 = .ok (.ldc2_w 295, 3) := by decide +kernel
theorem dX10_soon_8 : decode cX10_soon 8 = .ok (.invokestatic 74, 3) := by decide +kernel
theorem dX10_soon_11 : decode cX10_soon 11 = .ok (.ifCond .eq 10, 3) := by decide +kernel
theorem dX10_soon_14 : decode cX10_soon 14 = .ok (.iload_n 2, 1) := by decide +kernel
theorem dX10_soon_15 : decode cX10_soon 15 = .ok (.invokestatic 286, 3) := by decide +kernel
theorem dX10_soon_18 : decode cX10_soon 18 = .ok (.ifCond .ne 6, 3) := by decide +kernel
theorem dX10_soon_21 : decode cX10_soon 21 = .ok (.ldc 84, 2) := by decide +kernel
theorem dX10_soon_23 : decode cX10_soon 23 = .ok (.ireturn, 1) := by decide +kernel
theorem dX10_soon_24 : decode cX10_soon 24 = .ok (.iconst (-1), 1) := by decide +kernel
theorem dX10_soon_25 : decode cX10_soon 25 = .ok (.istore_n 3, 1) := by decide +kernel
theorem dX10_soon_26 : decode cX10_soon 26 = .ok (.iconst 0, 1) := by decide +kernel
theorem dX10_soon_27 : decode cX10_soon 27 = .ok (.istore 4, 2) := by decide +kernel
theorem dX10_soon_29 : decode cX10_soon 29 = .ok (.iload 4, 2) := by decide +kernel
theorem dX10_soon_31 : decode cX10_soon 31 = .ok (.bipush 6, 2) := by decide +kernel
theorem dX10_soon_33 : decode cX10_soon 33 = .ok (.if_icmp .ge 119, 3) := by decide +kernel
theorem dX10_soon_36 : decode cX10_soon 36 = .ok (.iconst 0, 1) := by decide +kernel
theorem dX10_soon_37 : decode cX10_soon 37 = .ok (.istore 5, 2) := by decide +kernel
theorem dX10_soon_39 : decode cX10_soon 39 = .ok (.iconst 1, 1) := by decide +kernel
theorem dX10_soon_40 : decode cX10_soon 40 = .ok (.istore 6, 2) := by decide +kernel
theorem dX10_soon_42 : decode cX10_soon 42 = .ok (.iload 6, 2) := by decide +kernel
theorem dX10_soon_44 : decode cX10_soon 44 = .ok (.aload_n 0, 1) := by decide +kernel
theorem dX10_soon_45 : decode cX10_soon 45 = .ok (.getfield 7, 3) := by decide +kernel
theorem dX10_soon_48 : decode cX10_soon 48 = .ok (.aload_n 0, 1) := by decide +kernel
theorem dX10_soon_49 : decode cX10_soon 49 = .ok (.iload 4, 2) := by decide +kernel
theorem dX10_soon_51 : decode cX10_soon 51 = .ok (.invokevirtual 269, 3) := by decide +kernel
theorem dX10_soon_54 : decode cX10_soon 54 = .ok (.iaload, 1) := by decide +kernel
theorem dX10_soon_55 : decode cX10_soon 55 = .ok (.if_icmp .gt 91, 3) := by decide +kernel
theorem dX10_soon_58 : decode cX10_soon 58 = .ok (.iload 6, 2) := by decide +kernel
theorem dX10_soon_60 : decode cX10_soon 60 = .ok (.iconst 1, 1) := by decide +kernel
theorem dX10_soon_61 : decode cX10_soon 61 = .ok (.if_icmp .le 33, 3) := by decide +kernel
theorem dX10_soon_64 : decode cX10_soon 64 = .ok (.aload_n 0, 1) := by decide +kernel
theorem dX10_soon_65 : decode cX10_soon 65 = .ok (.iload 4, 2) := by decide +kernel
theorem dX10_soon_67 : decode cX10_soon 67 = .ok (.iload 6, 2) := by decide +kernel
theorem dX10_soon_69 : decode cX10_soon 69 = .ok (.iload_n 2, 1) := by decide +kernel
theorem dX10_soon_70 : decode cX10_soon 70 = .ok (.invokevirtual 281, 3) := by decide +kernel
theorem dX10_soon_73 : decode cX10_soon 73 = .ok (.aload_n 0, 1) := by decide +kernel
theorem dX10_soon_74 : decode cX10_soon 74 = .ok (.iload 4, 2) := by decide +kernel
theorem dX10_soon_76 : decode cX10_soon 76 = .ok (.iload 6, 2) := by decide +kernel
theorem dX10_soon_78 : decode cX10_soon 78 = .ok (.iconst 1, 1) := by decide +kernel
theorem dX10_soon_79 : decode cX10_soon 79 = .ok (.isub, 1) := by decide +kernel
theorem dX10_soon_80 : decode cX10_soon 80 = .ok (.iload_n 2, 1) := by decide +kernel
theorem dX10_soon_81 : decode cX10_soon 81 = .ok (.invokevirtual 281, 3) := by decide +kernel
theorem dX10_soon_84 : decode cX10_soon 84 = .ok (.if_icmp .ne 10, 3) := by decide +kernel
theorem dX10_soon_87 : decode cX10_soon 87 = .ok (.iload 5, 2) := by decide +kernel
theorem dX10_soon_89 : decode cX10_soon 89 = .ok (.iconst 1, 1) := by decide +kernel
theorem dX10_soon_90 : decode cX10_soon 90 = .ok (.iadd, 1) := by decide +kernel
theorem dX10_soon_91 : decode cX10_soon 91 = .ok (.goto 4, 3) := by decide +kernel
theorem dX10_soon_94 : decode cX10_soon 94 = .ok (.iconst 1, 1) := by decide +kernel
theorem dX10_soon_95 : decode cX10_soon 95 = .ok (.istore 5, 2) := by decide +kernel
theorem dX10_soon_97 : decode cX10_soon 97 = .ok (.aload_n 0, 1) := by decide +kernel
theorem dX10_soon_98 : decode cX10_soon 98 = .ok (.aload_n 0, 1) := by decide +kernel
theorem dX10_soon_99 : decode cX10_soon 99 = .ok (.getfield 7, 3) := by decide +kernel
theorem dX10_soon_102 : decode cX10_soon 102 = .ok (.aload_n 0, 1) := by decide +kernel
theorem dX10_soon_103 : decode cX10_soon 103 = .ok (.iload 4, 2) := by decide +kernel
theorem dX10_soon_105 : decode cX10_soon 105 = .ok (.invokevirtual 269, 3) := by decide +kernel
theorem dX10_soon_108 : decode cX10_soon 108 = .ok (.iload 6, 2) := by decide +kernel
theorem dX10_soon_110 : decode cX10_soon 110 = .ok (.iadd, 1) := by decide +kernel
theorem dX10_soon_111 : decode cX10_soon 111 = .ok (.iaload, 1) := by decide +kernel
theorem dX10_soon_112 : decode cX10_soon 112 = .ok (.invokevirtual 122, 3) := by decide +kernel
theorem dX10_soon_115 : decode cX10_soon 115 = .ok (.istore 7, 2) := by decide +kernel
theorem dX10_soon_117 : decode cX10_soon 117 = .ok (.iload 5, 2) := by decide +kernel
theorem dX10_soon_119 : decode cX10_soon 119 = .ok (.iload_n 1, 1) := by decide +kernel
theorem dX10_soon_120 : decode cX10_soon 120 = .ok (.if_icmp .lt 18, 3) := by decide +kernel
theorem dX10_soon_123 : decode cX10_soon 123 = .ok (.iload_n 3, 1) := by decide +kernel
theorem dX10_soon_124 : decode cX10_soon 124 = .ok (.ifCond .lt 9, 3) := by decide +kernel
theorem dX10_soon_127 : decode cX10_soon 127 = .ok (.iload 7, 2) := by decide +kernel
theorem dX10_soon_129 : decode cX10_soon 129 = .ok (.iload_n 3, 1) := by decide +kernel
theorem dX10_soon_130 : decode cX10_soon 130 = .ok (.if_icmp .ge 8, 3) := by decide +kernel
theorem dX10_soon_133 : decode cX10_soon 133 = .ok (.iload 7, 2) := by decide +kernel
theorem dX10_soon_135 : decode cX10_soon 135 = .ok (.goto 4, 3) := by decide +kernel
theorem dX10_soon_138 : decode cX10_soon 138 = .ok (.iload_n 3, 1) := by decide +kernel
theorem dX10_soon_139 : decode cX10_soon 139 = .ok (.istore_n 3, 1) := by decide +kernel
theorem dX10_soon_140 : decode cX10_soon 140 = .ok (.iinc 6 1, 3) := by decide +kernel
theorem dX10_soon_143 : decode cX10_soon 143 = .ok (.goto (-101), 3) := by decide +kernel
theorem dX10_soon_146 : decode cX10_soon 146 = .ok (.iinc 4 1, 3) := by decide +kernel
theorem dX10_soon_149 : decode cX10_soon 149 = .ok (.goto (-120), 3) := by decide +kernel
theorem dX10_soon_152 : decode cX10_soon 152 = .ok (.iload_n 3, 1) := by decide +kernel
theorem dX10_soon_153 : decode cX10_soon 153 = .ok (.invokestatic 141, 3) := by decide +kernel
theorem dX10_soon_156 : decode cX10_soon 156 = .ok (.ireturn, 1) := by decide +kernel
theorem dX10_digitOf_0 : decode cX10_digitOf 0 = .ok (.iconst 0, 1) := by decide +kernel
theorem dX10_digitOf_1 : decode cX10_digitOf 1 = .ok (.istore_n 2, 1) := by decide +kernel
theorem dX10_digitOf_2 : decode cX10_digitOf 2 = .ok (.iconst 0, 1) := by decide +kernel
theorem dX10_digitOf_3 : decode cX10_digitOf 3 = .ok (.istore_n 3, 1) := by decide +kernel
theorem dX10_digitOf_4 : decode cX10_digitOf 4 = .ok (.iload_n 3, 1) := by decide +kernel
theorem dX10_digitOf_5 : decode cX10_digitOf 5 = .ok (.aload_n 0, 1) := by decide +kernel
theorem dX10_digitOf_6 : decode cX10_digitOf 6 = .ok (.getfield 7, 3) := by decide +kernel
theorem dX10_digitOf_9 : decode cX10_digitOf 9 = .ok (.iconst 1, 1) := by decide +kernel
theorem dX10_digitOf_10 : decode cX10_digitOf 10 = .ok (.iaload, 1) := by decide +kernel
theorem dX10_digitOf_11 : decode cX10_digitOf 11 = .ok (.if_icmp .ge 36, 3) := by decide +kernel
theorem dX10_digitOf_14 : decode cX10_digitOf 14 = .ok (.iload_n 2, 1) := by decide +kernel
theorem dX10_digitOf_15 : decode cX10_digitOf 15 = .ok (.aload_n 0, 1) := by decide +kernel
theorem dX10_digitOf_16 : decode cX10_digitOf 16 = .ok (.getfield 7, 3) := by decide +kernel
theorem dX10_digitOf_19 : decode cX10_digitOf 19 = .ok (.aload_n 0, 1) := by decide +kernel
theorem dX10_digitOf_20 : decode cX10_digitOf 20 = .ok (.iload_n 3, 1) := by decide +kernel
theorem dX10_digitOf_21 : decode cX10_digitOf 21 = .ok (.invokevirtual 87, 3) := by decide +kernel
theorem dX10_digitOf_24 : decode cX10_digitOf 24 = .ok (.iconst 2, 1) := by decide +kernel
theorem dX10_digitOf_25 : decode cX10_digitOf 25 = .ok (.iadd, 1) := by decide +kernel
theorem dX10_digitOf_26 : decode cX10_digitOf 26 = .ok (.iaload, 1) := by decide +kernel
theorem dX10_digitOf_27 : decode cX10_digitOf 27 = .ok (.bipush 10, 2) := by decide +kernel
theorem dX10_digitOf_29 : decode cX10_digitOf 29 = .ok (.irem, 1) := by decide +kernel
theorem dX10_digitOf_30 : decode cX10_digitOf 30 = .ok (.iload_n 1, 1) := by decide +kernel
theorem dX10_digitOf_31 : decode cX10_digitOf 31 = .ok (.if_icmp .ne 7, 3) := by decide +kernel
theorem dX10_digitOf_34 : decode cX10_digitOf 34 = .ok (.iconst 1, 1) := by decide +kernel
theorem dX10_digitOf_35 : decode cX10_digitOf 35 = .ok (.goto 4, 3) := by decide +kernel
theorem dX10_digitOf_38 : decode cX10_digitOf 38 = .ok (.iconst 0, 1) := by decide +kernel
theorem dX10_digitOf_39 : decode cX10_digitOf 39 = .ok (.iadd, 1) := by decide +kernel
theorem dX10_digitOf_40 : decode cX10_digitOf 40 = .ok (.istore_n 2, 1) := by decide +kernel
theorem dX10_digitOf_41 : decode cX10_digitOf 41 = .ok (.iinc 3 1, 3) := by decide +kernel
theorem dX10_digitOf_44 : decode cX10_digitOf 44 = .ok (.goto (-40), 3) := by decide +kernel
theorem dX10_digitOf_47 : decode cX10_digitOf 47 = .ok (.iload_n 2, 1) := by decide +kernel
theorem dX10_digitOf_48 : decode cX10_digitOf 48 = .ok (.ireturn, 1) := by decide +kernel
theorem dX10_even_0 : decode cX10_even 0 = .ok (.iconst 0, 1) := by decide +kernel
theorem dX10_even_1 : decode cX10_even 1 = .ok (.istore_n 1, 1) := by decide +kernel
theorem dX10_even_2 : decode cX10_even 2 = .ok (.iconst 0, 1) := by decide +kernel
theorem dX10_even_3 : decode cX10_even 3 = .ok (.istore_n 2, 1) := by decide +kernel
theorem dX10_even_4 : decode cX10_even 4 = .ok (.iload_n 2, 1) := by decide +kernel
theorem dX10_even_5 : decode cX10_even 5 = .ok (.bipush 10, 2) := by decide +kernel
theorem dX10_even_7 : decode cX10_even 7 = .ok (.if_icmp .ge 31, 3) := by decide +kernel
theorem dX10_even_10 : decode cX10_even 10 = .ok (.bipush 10, 2) := by decide +kernel
theorem dX10_even_12 : decode cX10_even 12 = .ok (.aload_n 0, 1) := by decide +kernel
theorem dX10_even_13 : decode cX10_even 13 = .ok (.iload_n 2, 1) := by decide +kernel
theorem dX10_even_14 : decode cX10_even 14 = .ok (.invokevirtual 297, 3) := by decide +kernel
theorem dX10_even_17 : decode cX10_even 17 = .ok (.imul, 1) := by decide +kernel
theorem dX10_even_18 : decode cX10_even 18 = .ok (.aload_n 0, 1) := by decide +kernel
theorem dX10_even_19 : decode cX10_even 19 = .ok (.getfield 7, 3) := by decide +kernel
theorem dX10_even_22 : decode cX10_even 22 = .ok (.iconst 1, 1) := by decide +kernel
theorem dX10_even_23 : decode cX10_even 23 = .ok (.iaload, 1) := by decide +kernel
theorem dX10_even_24 : decode cX10_even 24 = .ok (.isub, 1) := by decide +kernel
theorem dX10_even_25 : decode cX10_even 25 = .ok (.istore_n 3, 1) := by decide +kernel
theorem dX10_even_26 : decode cX10_even 26 = .ok (.iload_n 1, 1) := by decide +kernel
theorem dX10_even_27 : decode cX10_even 27 = .ok (.iload_n 3, 1) := by decide +kernel
theorem dX10_even_28 : decode cX10_even 28 = .ok (.iload_n 3, 1) := by decide +kernel
theorem dX10_even_29 : decode cX10_even 29 = .ok (.imul, 1) := by decide +kernel
theorem dX10_even_30 : decode cX10_even 30 = .ok (.iadd, 1) := by decide +kernel
theorem dX10_even_31 : decode cX10_even 31 = .ok (.istore_n 1, 1) := by decide +kernel
theorem dX10_even_32 : decode cX10_even 32 = .ok (.iinc 2 1, 3) := by decide +kernel
theorem dX10_even_35 : decode cX10_even 35 = .ok (.goto (-31), 3) := by decide +kernel
theorem dX10_even_38 : decode cX10_even 38 = .ok (.iload_n 1, 1) := by decide +kernel
theorem dX10_even_39 : decode cX10_even 39 = .ok (.ireturn, 1) := by decide +kernel
theorem dX10_digit_0 : decode cX10_digit 0 = .ok (.iload_n 1, 1) := by decide +kernel
theorem dX10_digit_1 : decode cX10_digit 1 = .ok (.i2l, 1) := by decide +kernel
theorem dX10_digit_2 : decode cX10_digit 2 = .ok (.lconst 0, 1) := by decide +kernel
theorem dX10_digit_3 : decode cX10_digit 3 = .ok (.ldc2_w 300, 3) := by decide +kernel
theorem dX10_digit_6 : decode cX10_digit 6 = .ok (.invokestatic 74, 3) := by decide +kernel
theorem dX10_digit_9 : decode cX10_digit 9 = .ok (.ifCond .eq 11, 3) := by decide +kernel
theorem dX10_digit_12 : decode cX10_digit 12 = .ok (.aload_n 0, 1) := by decide +kernel
theorem dX10_digit_13 : decode cX10_digit 13 = .ok (.iload_n 1, 1) := by decide +kernel
theorem dX10_digit_14 : decode cX10_digit 14 = .ok (.invokevirtual 297, 3) := by decide +kernel
theorem dX10_digit_17 : decode cX10_digit 17 = .ok (.goto 5, 3) := by decide +kernel
theorem dX10_digit_20 : decode cX10_digit 20 = .ok (.ldc 84, 2) := by decide +kernel
theorem dX10_digit_22 : decode cX10_digit 22 = .ok (.ireturn, 1) := by decide +kernel
theorem dX10_odd_0 : decode cX10_odd 0 = .ok (.aload_n 0, 1) := by decide +kernel
theorem dX10_odd_1 : decode cX10_odd 1 = .ok (.bipush 13, 2) := by decide +kernel
theorem dX10_odd_3 : decode cX10_odd 3 = .ok (.invokevirtual 112, 3) := by decide +kernel
theorem dX10_odd_6 : decode cX10_odd 6 = .ok (.istore_n 1, 1) := by decide +kernel
theorem dX10_odd_7 : decode cX10_odd 7 = .ok (.iconst 0, 1) := by decide +kernel
theorem dX10_odd_8 : decode cX10_odd 8 = .ok (.istore_n 2, 1) := by decide +kernel
theorem dX10_odd_9 : decode cX10_odd 9 = .ok (.iconst 0, 1) := by decide +kernel
theorem dX10_odd_10 : decode cX10_odd 10 = .ok (.istore_n 3, 1) := by decide +kernel
theorem dX10_odd_11 : decode cX10_odd 11 = .ok (.iload_n 3, 1) := by decide +kernel
theorem dX10_odd_12 : decode cX10_odd 12 = .ok (.bipush 10, 2) := by decide +kernel
theorem dX10_odd_14 : decode cX10_odd 14 = .ok (.if_icmp .ge 100, 3) := by decide +kernel
theorem dX10_odd_17 : decode cX10_odd 17 = .ok (.aload_n 0, 1) := by decide +kernel
theorem dX10_odd_18 : decode cX10_odd 18 = .ok (.getfield 46, 3) := by decide +kernel
theorem dX10_odd_21 : decode cX10_odd 21 = .ok (.bipush 99, 2) := by decide +kernel
theorem dX10_odd_23 : decode cX10_odd 23 = .ok (.aload_n 0, 1) := by decide +kernel
theorem dX10_odd_24 : decode cX10_odd 24 = .ok (.iload_n 3, 1) := by decide +kernel
theorem dX10_odd_25 : decode cX10_odd 25 = .ok (.invokevirtual 297, 3) := by decide +kernel
theorem dX10_odd_28 : decode cX10_odd 28 = .ok (.iastore, 1) := by decide +kernel
theorem dX10_odd_29 : decode cX10_odd 29 = .ok (.aload_n 0, 1) := by decide +kernel
theorem dX10_odd_30 : decode cX10_odd 30 = .ok (.getfield 46, 3) := by decide +kernel
theorem dX10_odd_33 : decode cX10_odd 33 = .ok (.bipush 100, 2) := by decide +kernel
theorem dX10_odd_35 : decode cX10_odd 35 = .ok (.iload_n 3, 1) := by decide +kernel
theorem dX10_odd_36 : decode cX10_odd 36 = .ok (.iastore, 1) := by decide +kernel
theorem dX10_odd_37 : decode cX10_odd 37 = .ok (.aload_n 0, 1) := by decide +kernel
theorem dX10_odd_38 : decode cX10_odd 38 = .ok (.getfield 46, 3) := by decide +kernel
theorem dX10_odd_41 : decode cX10_odd 41 = .ok (.bipush 97, 2) := by decide +kernel
theorem dX10_odd_43 : decode cX10_odd 43 = .ok (.aload_n 0, 1) := by decide +kernel
theorem dX10_odd_44 : decode cX10_odd 44 = .ok (.getfield 7, 3) := by decide +kernel
theorem dX10_odd_47 : decode cX10_odd 47 = .ok (.iconst 1, 1) := by decide +kernel
theorem dX10_odd_48 : decode cX10_odd 48 = .ok (.iaload, 1) := by decide +kernel
theorem dX10_odd_49 : decode cX10_odd 49 = .ok (.iastore, 1) := by decide +kernel
theorem dX10_odd_50 : decode cX10_odd 50 = .ok (.iload_n 1, 1) := by decide +kernel
theorem dX10_odd_51 : decode cX10_odd 51 = .ok (.ifCond .ge 27, 3) := by decide +kernel
theorem dX10_odd_54 : decode cX10_odd 54 = .ok (.aload_n 0, 1) := by decide +kernel
theorem dX10_odd_55 : decode cX10_odd 55 = .ok (.iload_n 3, 1) := by decide +kernel
theorem dX10_odd_56 : decode cX10_odd 56 = .ok (.invokevirtual 297, 3) := by decide +kernel
theorem dX10_odd_59 : decode cX10_odd 59 = .ok (.aload_n 0, 1) := by decide +kernel
theorem dX10_odd_60 : decode cX10_odd 60 = .ok (.getfield 7, 3) := by decide +kernel
theorem dX10_odd_63 : decode cX10_odd 63 = .ok (.iconst 1, 1) := by decide +kernel
theorem dX10_odd_64 : decode cX10_odd 64 = .ok (.iaload, 1) := by decide +kernel
theorem dX10_odd_65 : decode cX10_odd 65 = .ok (.iconst 3, 1) := by decide +kernel
theorem dX10_odd_66 : decode cX10_odd 66 = .ok (.idiv, 1) := by decide +kernel
theorem dX10_odd_67 : decode cX10_odd 67 = .ok (.if_icmp .le 7, 3) := by decide +kernel
theorem dX10_odd_70 : decode cX10_odd 70 = .ok (.iconst 1, 1) := by decide +kernel
theorem dX10_odd_71 : decode cX10_odd 71 = .ok (.goto 20, 3) := by decide +kernel
theorem dX10_odd_74 : decode cX10_odd 74 = .ok (.iconst 0, 1) := by decide +kernel
theorem dX10_odd_75 : decode cX10_odd 75 = .ok (.goto 16, 3) := by decide +kernel
theorem dX10_odd_78 : decode cX10_odd 78 = .ok (.aload_n 0, 1) := by decide +kernel
theorem dX10_odd_79 : decode cX10_odd 79 = .ok (.iload_n 1, 1) := by decide +kernel
theorem dX10_odd_80 : decode cX10_odd 80 = .ok (.invokevirtual 115, 3) := by decide +kernel
theorem dX10_odd_83 : decode cX10_odd 83 = .ok (.ifCond .eq 7, 3) := by decide +kernel
theorem dX10_odd_86 : decode cX10_odd 86 = .ok (.iconst 1, 1) := by decide +kernel
theorem dX10_odd_87 : decode cX10_odd 87 = .ok (.goto 4, 3) := by decide +kernel
theorem dX10_odd_90 : decode cX10_odd 90 = .ok (.iconst 0, 1) := by decide +kernel
theorem dX10_odd_91 : decode cX10_odd 91 = .ok (.istore 4, 2) := by decide +kernel
theorem dX10_odd_93 : decode cX10_odd 93 = .ok (.iload_n 2, 1) := by decide +kernel
theorem dX10_odd_94 : decode cX10_odd 94 = .ok (.iload 4, 2) := by decide +kernel
theorem dX10_odd_96 : decode cX10_odd 96 = .ok (.ifCond .eq 9, 3) := by decide +kernel
theorem dX10_odd_99 : decode cX10_odd 99 = .ok (.iconst 1, 1) := by decide +kernel
theorem dX10_odd_100 : decode cX10_odd 100 = .ok (.iload_n 3, 1) := by decide +kernel
theorem dX10_odd_101 : decode cX10_odd 101 = .ok (.ishl, 1) := by decide +kernel
theorem dX10_odd_102 : decode cX10_odd 102 = .ok (.goto 4, 3) := by decide +kernel
theorem dX10_odd_105 : decode cX10_odd 105 = .ok (.iconst 0, 1) := by decide +kernel
theorem dX10_odd_106 : decode cX10_odd 106 = .ok (.ior, 1) := by decide +kernel
theorem dX10_odd_107 : decode cX10_odd 107 = .ok (.istore_n 2, 1) := by decide +kernel
theorem dX10_odd_108 : decode cX10_odd 108 = .ok (.iinc 3 1, 3) := by decide +kernel
theorem dX10_odd_111 : decode cX10_odd 111 = .ok (.goto (-100), 3) := by decide +kernel
theorem dX10_odd_114 : decode cX10_odd 114 = .ok (.iload_n 2, 1) := by decide +kernel
theorem dX10_odd_115 : decode cX10_odd 115 = .ok (.ireturn, 1) := by decide +kernel
theorem dX10_choose_0 : decode cX10_choose 0 = .ok (.aload_n 0, 1) := by decide +kernel
theorem dX10_choose_1 : decode cX10_choose 1 = .ok (.iload_n 1, 1) := by decide +kernel
theorem dX10_choose_2 : decode cX10_choose 2 = .ok (.invokevirtual 102, 3) := by decide +kernel
theorem dX10_choose_5 : decode cX10_choose 5 = .ok (.ifCond .ne 6, 3) := by decide +kernel
theorem dX10_choose_8 : decode cX10_choose 8 = .ok (.ldc 84, 2) := by decide +kernel
theorem dX10_choose_10 : decode cX10_choose 10 = .ok (.ireturn, 1) := by decide +kernel
theorem dX10_choose_11 : decode cX10_choose 11 = .ok (.iconst 0, 1) := by decide +kernel
theorem dX10_choose_12 : decode cX10_choose 12 = .ok (.istore_n 2, 1) := by decide +kernel
theorem dX10_choose_13 : decode cX10_choose 13 = .ok (.iload_n 2, 1) := by decide +kernel
theorem dX10_choose_14 : decode cX10_choose 14 = .ok (.aload_n 0, 1) := by decide +kernel
theorem dX10_choose_15 : decode cX10_choose 15 = .ok (.getfield 7, 3) := by decide +kernel
theorem dX10_choose_18 : decode cX10_choose 18 = .ok (.iconst 3, 1) := by decide +kernel
theorem dX10_choose_19 : decode cX10_choose 19 = .ok (.iaload, 1) := by decide +kernel
theorem dX10_choose_20 : decode cX10_choose 20 = .ok (.if_icmp .ge 26, 3) := by decide +kernel
theorem dX10_choose_23 : decode cX10_choose 23 = .ok (.aload_n 0, 1) := by decide +kernel
theorem dX10_choose_24 : decode cX10_choose 24 = .ok (.getfield 7, 3) := by decide +kernel
theorem dX10_choose_27 : decode cX10_choose 27 = .ok (.sipush 350, 3) := by decide +kernel
theorem dX10_choose_30 : decode cX10_choose 30 = .ok (.iload_n 2, 1) := by decide +kernel
theorem dX10_choose_31 : decode cX10_choose 31 = .ok (.iadd, 1) := by decide +kernel
theorem dX10_choose_32 : decode cX10_choose 32 = .ok (.iaload, 1) := by decide +kernel
theorem dX10_choose_33 : decode cX10_choose 33 = .ok (.iload_n 1, 1) := by decide +kernel
theorem dX10_choose_34 : decode cX10_choose 34 = .ok (.if_icmp .ne 6, 3) := by decide +kernel
theorem dX10_choose_37 : decode cX10_choose 37 = .ok (.ldc 85, 2) := by decide +kernel
theorem dX10_choose_39 : decode cX10_choose 39 = .ok (.ireturn, 1) := by decide +kernel
theorem dX10_choose_40 : decode cX10_choose 40 = .ok (.iinc 2 1, 3) := by decide +kernel
theorem dX10_choose_43 : decode cX10_choose 43 = .ok (.goto (-30), 3) := by decide +kernel
theorem dX10_choose_46 : decode cX10_choose 46 = .ok (.aload_n 0, 1) := by decide +kernel
theorem dX10_choose_47 : decode cX10_choose 47 = .ok (.getfield 7, 3) := by decide +kernel
theorem dX10_choose_50 : decode cX10_choose 50 = .ok (.iconst 3, 1) := by decide +kernel
theorem dX10_choose_51 : decode cX10_choose 51 = .ok (.iaload, 1) := by decide +kernel
theorem dX10_choose_52 : decode cX10_choose 52 = .ok (.bipush 6, 2) := by decide +kernel
theorem dX10_choose_54 : decode cX10_choose 54 = .ok (.if_icmp .ne 6, 3) := by decide +kernel
theorem dX10_choose_57 : decode cX10_choose 57 = .ok (.ldc 86, 2) := by decide +kernel
theorem dX10_choose_59 : decode cX10_choose 59 = .ok (.ireturn, 1) := by decide +kernel
theorem dX10_choose_60 : decode cX10_choose 60 = .ok (.aload_n 0, 1) := by decide +kernel
theorem dX10_choose_61 : decode cX10_choose 61 = .ok (.getfield 7, 3) := by decide +kernel
theorem dX10_choose_64 : decode cX10_choose 64 = .ok (.sipush 350, 3) := by decide +kernel
theorem dX10_choose_67 : decode cX10_choose 67 = .ok (.aload_n 0, 1) := by decide +kernel
theorem dX10_choose_68 : decode cX10_choose 68 = .ok (.getfield 7, 3) := by decide +kernel
theorem dX10_choose_71 : decode cX10_choose 71 = .ok (.iconst 3, 1) := by decide +kernel
theorem dX10_choose_72 : decode cX10_choose 72 = .ok (.iaload, 1) := by decide +kernel
theorem dX10_choose_73 : decode cX10_choose 73 = .ok (.iadd, 1) := by decide +kernel
theorem dX10_choose_74 : decode cX10_choose 74 = .ok (.iload_n 1, 1) := by decide +kernel
theorem dX10_choose_75 : decode cX10_choose 75 = .ok (.iastore, 1) := by decide +kernel
theorem dX10_choose_76 : decode cX10_choose 76 = .ok (.aload_n 0, 1) := by decide +kernel
theorem dX10_choose_77 : decode cX10_choose 77 = .ok (.getfield 7, 3) := by decide +kernel
theorem dX10_choose_80 : decode cX10_choose 80 = .ok (.iconst 3, 1) := by decide +kernel
theorem dX10_choose_81 : decode cX10_choose 81 = .ok (.dup2, 1) := by decide +kernel
theorem dX10_choose_82 : decode cX10_choose 82 = .ok (.iaload, 1) := by decide +kernel
theorem dX10_choose_83 : decode cX10_choose 83 = .ok (.iconst 1, 1) := by decide +kernel
theorem dX10_choose_84 : decode cX10_choose 84 = .ok (.iadd, 1) := by decide +kernel
theorem dX10_choose_85 : decode cX10_choose 85 = .ok (.iastore, 1) := by decide +kernel
theorem dX10_choose_86 : decode cX10_choose 86 = .ok (.aload_n 0, 1) := by decide +kernel
theorem dX10_choose_87 : decode cX10_choose 87 = .ok (.getfield 7, 3) := by decide +kernel
theorem dX10_choose_90 : decode cX10_choose 90 = .ok (.iconst 3, 1) := by decide +kernel
theorem dX10_choose_91 : decode cX10_choose 91 = .ok (.iaload, 1) := by decide +kernel
theorem dX10_choose_92 : decode cX10_choose 92 = .ok (.ireturn, 1) := by decide +kernel
theorem dX10_tries_0 : decode cX10_tries 0 = .ok (.iload_n 3, 1) := by decide +kernel
theorem dX10_tries_1 : decode cX10_tries 1 = .ok (.aload_n 0, 1) := by decide +kernel
theorem dX10_tries_2 : decode cX10_tries 2 = .ok (.getfield 302, 3) := by decide +kernel
theorem dX10_tries_5 : decode cX10_tries 5 = .ok (.if_icmp .gt 18, 3) := by decide +kernel
theorem dX10_tries_8 : decode cX10_tries 8 = .ok (.aload_n 0, 1) := by decide +kernel
theorem dX10_tries_9 : decode cX10_tries 9 = .ok (.getfield 305, 3) := by decide +kernel
theorem dX10_tries_12 : decode cX10_tries 12 = .ok (.ifCond .lt 12, 3) := by decide +kernel
theorem dX10_tries_15 : decode cX10_tries 15 = .ok (.iload_n 2, 1) := by decide +kernel
theorem dX10_tries_16 : decode cX10_tries 16 = .ok (.aload_n 0, 1) := by decide +kernel
theorem dX10_tries_17 : decode cX10_tries 17 = .ok (.getfield 305, 3) := by decide +kernel
theorem dX10_tries_20 : decode cX10_tries 20 = .ok (.if_icmp .le 4, 3) := by decide +kernel
theorem dX10_tries_23 : decode cX10_tries 23 = .ok (.return_, 1) := by decide +kernel
theorem dX10_tries_24 : decode cX10_tries 24 = .ok (.iload_n 1, 1) := by decide +kernel
theorem dX10_tries_25 : decode cX10_tries 25 = .ok (.aload_n 0, 1) := by decide +kernel
theorem dX10_tries_26 : decode cX10_tries 26 = .ok (.getfield 7, 3) := by decide +kernel
theorem dX10_tries_29 : decode cX10_tries 29 = .ok (.iconst 3, 1) := by decide +kernel
theorem dX10_tries_30 : decode cX10_tries 30 = .ok (.iaload, 1) := by decide +kernel
theorem dX10_tries_31 : decode cX10_tries 31 = .ok (.if_icmp .ne 66, 3) := by decide +kernel
theorem dX10_tries_34 : decode cX10_tries 34 = .ok (.aload_n 0, 1) := by decide +kernel
theorem dX10_tries_35 : decode cX10_tries 35 = .ok (.getfield 305, 3) := by decide +kernel
theorem dX10_tries_38 : decode cX10_tries 38 = .ok (.ifCond .lt 19, 3) := by decide +kernel
theorem dX10_tries_41 : decode cX10_tries 41 = .ok (.iload_n 2, 1) := by decide +kernel
theorem dX10_tries_42 : decode cX10_tries 42 = .ok (.aload_n 0, 1) := by decide +kernel
theorem dX10_tries_43 : decode cX10_tries 43 = .ok (.getfield 305, 3) := by decide +kernel
theorem dX10_tries_46 : decode cX10_tries 46 = .ok (.if_icmp .lt 11, 3) := by decide +kernel
theorem dX10_tries_49 : decode cX10_tries 49 = .ok (.iload_n 3, 1) := by decide +kernel
theorem dX10_tries_50 : decode cX10_tries 50 = .ok (.aload_n 0, 1) := by decide +kernel
theorem dX10_tries_51 : decode cX10_tries 51 = .ok (.getfield 308, 3) := by decide +kernel
theorem dX10_tries_54 : decode cX10_tries 54 = .ok (.if_icmp .ge 42, 3) := by decide +kernel
theorem dX10_tries_57 : decode cX10_tries 57 = .ok (.aload_n 0, 1) := by decide +kernel
theorem dX10_tries_58 : decode cX10_tries 58 = .ok (.iload_n 2, 1) := by decide +kernel
theorem dX10_tries_59 : decode cX10_tries 59 = .ok (.putfield 305, 3) := by decide +kernel
theorem dX10_tries_62 : decode cX10_tries 62 = .ok (.aload_n 0, 1) := by decide +kernel
theorem dX10_tries_63 : decode cX10_tries 63 = .ok (.iload_n 3, 1) := by decide +kernel
theorem dX10_tries_64 : decode cX10_tries 64 = .ok (.putfield 308, 3) := by decide +kernel
theorem dX10_tries_67 : decode cX10_tries 67 = .ok (.iconst 0, 1) := by decide +kernel
theorem dX10_tries_68 : decode cX10_tries 68 = .ok (.istore 4, 2) := by decide +kernel
theorem dX10_tries_70 : decode cX10_tries 70 = .ok (.iload 4, 2) := by decide +kernel
theorem dX10_tries_72 : decode cX10_tries 72 = .ok (.iload_n 1, 1) := by decide +kernel
theorem dX10_tries_73 : decode cX10_tries 73 = .ok (.if_icmp .ge 23, 3) := by decide +kernel
theorem dX10_tries_76 : decode cX10_tries 76 = .ok (.aload_n 0, 1) := by decide +kernel
theorem dX10_tries_77 : decode cX10_tries 77 = .ok (.getfield 58, 3) := by decide +kernel
theorem dX10_tries_80 : decode cX10_tries 80 = .ok (.iload 4, 2) := by decide +kernel
theorem dX10_tries_82 : decode cX10_tries 82 = .ok (.aload_n 0, 1) := by decide +kernel
theorem dX10_tries_83 : decode cX10_tries 83 = .ok (.getfield 55, 3) := by decide +kernel
theorem dX10_tries_86 : decode cX10_tries 86 = .ok (.iload 4, 2) := by decide +kernel
theorem dX10_tries_88 : decode cX10_tries 88 = .ok (.iaload, 1) := by decide +kernel
theorem dX10_tries_89 : decode cX10_tries 89 = .ok (.iastore, 1) := by decide +kernel
theorem dX10_tries_90 : decode cX10_tries 90 = .ok (.iinc 4 1, 3) := by decide +kernel
theorem dX10_tries_93 : decode cX10_tries 93 = .ok (.goto (-23), 3) := by decide +kernel
theorem dX10_tries_96 : decode cX10_tries 96 = .ok (.return_, 1) := by decide +kernel
theorem dX10_tries_97 : decode cX10_tries 97 = .ok (.iconst 1, 1) := by decide +kernel
theorem dX10_tries_98 : decode cX10_tries 98 = .ok (.istore 4, 2) := by decide +kernel
theorem dX10_tries_100 : decode cX10_tries 100 = .ok (.iload 4, 2) := by decide +kernel
theorem dX10_tries_102 : decode cX10_tries 102 = .ok (.bipush 7, 2) := by decide +kernel
theorem dX10_tries_104 : decode cX10_tries 104 = .ok (.if_icmp .gt 67, 3) := by decide +kernel
theorem dX10_tries_107 : decode cX10_tries 107 = .ok (.aload_n 0, 1) := by decide +kernel
theorem dX10_tries_108 : decode cX10_tries 108 = .ok (.getfield 52, 3) := by decide +kernel
theorem dX10_tries_111 : decode cX10_tries 111 = .ok (.bipush 8, 2) := by decide +kernel
theorem dX10_tries_113 : decode cX10_tries 113 = .ok (.iload_n 1, 1) := by decide +kernel
theorem dX10_tries_114 : decode cX10_tries 114 = .ok (.imul, 1) := by decide +kernel
theorem dX10_tries_115 : decode cX10_tries 115 = .ok (.iload 4, 2) := by decide +kernel
theorem dX10_tries_117 : decode cX10_tries 117 = .ok (.iadd, 1) := by decide +kernel
theorem dX10_tries_118 : decode cX10_tries 118 = .ok (.iaload, 1) := by decide +kernel
theorem dX10_tries_119 : decode cX10_tries 119 = .ok (.ifCond .lt 46, 3) := by decide +kernel
theorem dX10_tries_122 : decode cX10_tries 122 = .ok (.aload_n 0, 1) := by decide +kernel
theorem dX10_tries_123 : decode cX10_tries 123 = .ok (.getfield 55, 3) := by decide +kernel
theorem dX10_tries_126 : decode cX10_tries 126 = .ok (.iload_n 1, 1) := by decide +kernel
theorem dX10_tries_127 : decode cX10_tries 127 = .ok (.iload 4, 2) := by decide +kernel
theorem dX10_tries_129 : decode cX10_tries 129 = .ok (.iastore, 1) := by decide +kernel
theorem dX10_tries_130 : decode cX10_tries 130 = .ok (.aload_n 0, 1) := by decide +kernel
theorem dX10_tries_131 : decode cX10_tries 131 = .ok (.iload_n 1, 1) := by decide +kernel
theorem dX10_tries_132 : decode cX10_tries 132 = .ok (.iconst 1, 1) := by decide +kernel
theorem dX10_tries_133 : decode cX10_tries 133 = .ok (.iadd, 1) := by decide +kernel
theorem dX10_tries_134 : decode cX10_tries 134 = .ok (.iload_n 2, 1) := by decide +kernel
theorem dX10_tries_135 : decode cX10_tries 135 = .ok (.aload_n 0, 1) := by decide +kernel
theorem dX10_tries_136 : decode cX10_tries 136 = .ok (.getfield 52, 3) := by decide +kernel
theorem dX10_tries_139 : decode cX10_tries 139 = .ok (.bipush 8, 2) := by decide +kernel
theorem dX10_tries_141 : decode cX10_tries 141 = .ok (.iload_n 1, 1) := by decide +kernel
theorem dX10_tries_142 : decode cX10_tries 142 = .ok (.imul, 1) := by decide +kernel
theorem dX10_tries_143 : decode cX10_tries 143 = .ok (.iload 4, 2) := by decide +kernel
theorem dX10_tries_145 : decode cX10_tries 145 = .ok (.iadd, 1) := by decide +kernel
theorem dX10_tries_146 : decode cX10_tries 146 = .ok (.iaload, 1) := by decide +kernel
theorem dX10_tries_147 : decode cX10_tries 147 = .ok (.iadd, 1) := by decide +kernel
theorem dX10_tries_148 : decode cX10_tries 148 = .ok (.iload_n 3, 1) := by decide +kernel
theorem dX10_tries_149 : decode cX10_tries 149 = .ok (.iload 4, 2) := by decide +kernel
theorem dX10_tries_151 : decode cX10_tries 151 = .ok (.bipush 6, 2) := by decide +kernel
theorem dX10_tries_153 : decode cX10_tries 153 = .ok (.if_icmp .lt 7, 3) := by decide +kernel
theorem dX10_tries_156 : decode cX10_tries 156 = .ok (.iconst 1, 1) := by decide +kernel
theorem dX10_tries_157 : decode cX10_tries 157 = .ok (.goto 4, 3) := by decide +kernel
theorem dX10_tries_160 : decode cX10_tries 160 = .ok (.iconst 0, 1) := by decide +kernel
theorem dX10_tries_161 : decode cX10_tries 161 = .ok (.iadd, 1) := by decide +kernel
theorem dX10_tries_162 : decode cX10_tries 162 = .ok (.invokevirtual 311, 3) := by decide +kernel
theorem dX10_tries_165 : decode cX10_tries 165 = .ok (.iinc 4 1, 3) := by decide +kernel
theorem dX10_tries_168 : decode cX10_tries 168 = .ok (.goto (-68), 3) := by decide +kernel
theorem dX10_tries_171 : decode cX10_tries 171 = .ok (.return_, 1) := by decide +kernel
theorem dX10_story_0 : decode cX10_story 0 = .ok (.iload_n 1, 1) := by decide +kernel
theorem dX10_story_1 : decode cX10_story 1 = .ok (.i2l, 1) := by decide +kernel
theorem dX10_story_2 : decode cX10_story 2 = .ok (.lconst 0, 1) := by decide +kernel
theorem dX10_story_3 : decode cX10_story 3 = .ok (.ldc2_w 315, 3) := by decide +kernel
theorem dX10_story_6 : decode cX10_story 6 = .ok (.invokestatic 74, 3) := by decide +kernel
theorem dX10_story_9 : decode cX10_story 9 = .ok (.ifCond .eq 21, 3) := by decide +kernel
theorem dX10_story_12 : decode cX10_story 12 = .ok (.iload_n 2, 1) := by decide +kernel
theorem dX10_story_13 : decode cX10_story 13 = .ok (.i2l, 1) := by decide +kernel
theorem dX10_story_14 : decode cX10_story 14 = .ok (.lconst 0, 1) := by decide +kernel
theorem dX10_story_15 : decode cX10_story 15 = .ok (.iconst 1, 1) := by decide +kernel
theorem dX10_story_16 : decode cX10_story 16 = .ok (.aload_n 0, 1) := by decide +kernel
theorem dX10_story_17 : decode cX10_story 17 = .ok (.getfield 7, 3) := by decide +kernel
theorem dX10_story_20 : decode cX10_story 20 = .ok (.iconst 3, 1) := by decide +kernel
theorem dX10_story_21 : decode cX10_story 21 = .ok (.iaload, 1) := by decide +kernel
theorem dX10_story_22 : decode cX10_story 22 = .ok (.iadd, 1) := by decide +kernel
theorem dX10_story_23 : decode cX10_story 23 = .ok (.i2l, 1) := by decide +kernel
theorem dX10_story_24 : decode cX10_story 24 = .ok (.invokestatic 74, 3) := by decide +kernel
theorem dX10_story_27 : decode cX10_story 27 = .ok (.ifCond .ne 6, 3) := by decide +kernel
theorem dX10_story_30 : decode cX10_story 30 = .ok (.ldc 84, 2) := by decide +kernel
theorem dX10_story_32 : decode cX10_story 32 = .ok (.ireturn, 1) := by decide +kernel
theorem dX10_story_33 : decode cX10_story 33 = .ok (.iconst 0, 1) := by decide +kernel
theorem dX10_story_34 : decode cX10_story 34 = .ok (.istore_n 3, 1) := by decide +kernel
theorem dX10_story_35 : decode cX10_story 35 = .ok (.iload_n 3, 1) := by decide +kernel
theorem dX10_story_36 : decode cX10_story 36 = .ok (.aload_n 0, 1) := by decide +kernel
theorem dX10_story_37 : decode cX10_story 37 = .ok (.getfield 7, 3) := by decide +kernel
theorem dX10_story_40 : decode cX10_story 40 = .ok (.iconst 3, 1) := by decide +kernel
theorem dX10_story_41 : decode cX10_story 41 = .ok (.iaload, 1) := by decide +kernel
theorem dX10_story_42 : decode cX10_story 42 = .ok (.if_icmp .ge 82, 3) := by decide +kernel
theorem dX10_story_45 : decode cX10_story 45 = .ok (.aload_n 0, 1) := by decide +kernel
theorem dX10_story_46 : decode cX10_story 46 = .ok (.getfield 7, 3) := by decide +kernel
theorem dX10_story_49 : decode cX10_story 49 = .ok (.sipush 350, 3) := by decide +kernel
theorem dX10_story_52 : decode cX10_story 52 = .ok (.iload_n 3, 1) := by decide +kernel
theorem dX10_story_53 : decode cX10_story 53 = .ok (.iadd, 1) := by decide +kernel
theorem dX10_story_54 : decode cX10_story 54 = .ok (.iaload, 1) := by decide +kernel
theorem dX10_story_55 : decode cX10_story 55 = .ok (.istore 4, 2) := by decide +kernel
theorem dX10_story_57 : decode cX10_story 57 = .ok (.iconst 1, 1) := by decide +kernel
theorem dX10_story_58 : decode cX10_story 58 = .ok (.istore 5, 2) := by decide +kernel
theorem dX10_story_60 : decode cX10_story 60 = .ok (.iload 5, 2) := by decide +kernel
theorem dX10_story_62 : decode cX10_story 62 = .ok (.bipush 7, 2) := by decide +kernel
theorem dX10_story_64 : decode cX10_story 64 = .ok (.if_icmp .gt 54, 3) := by decide +kernel
theorem dX10_story_67 : decode cX10_story 67 = .ok (.aload_n 0, 1) := by decide +kernel
theorem dX10_story_68 : decode cX10_story 68 = .ok (.getfield 52, 3) := by decide +kernel
theorem dX10_story_71 : decode cX10_story 71 = .ok (.bipush 8, 2) := by decide +kernel
theorem dX10_story_73 : decode cX10_story 73 = .ok (.iload_n 3, 1) := by decide +kernel
theorem dX10_story_74 : decode cX10_story 74 = .ok (.imul, 1) := by decide +kernel
theorem dX10_story_75 : decode cX10_story 75 = .ok (.iload 5, 2) := by decide +kernel
theorem dX10_story_77 : decode cX10_story 77 = .ok (.iadd, 1) := by decide +kernel
theorem dX10_story_78 : decode cX10_story 78 = .ok (.aload_n 0, 1) := by decide +kernel
theorem dX10_story_79 : decode cX10_story 79 = .ok (.iload 4, 2) := by decide +kernel
theorem dX10_story_81 : decode cX10_story 81 = .ok (.iload 5, 2) := by decide +kernel
theorem dX10_story_83 : decode cX10_story 83 = .ok (.invokevirtual 144, 3) := by decide +kernel
theorem dX10_story_86 : decode cX10_story 86 = .ok (.ifCond .eq 24, 3) := by decide +kernel
theorem dX10_story_89 : decode cX10_story 89 = .ok (.iload 5, 2) := by decide +kernel
theorem dX10_story_91 : decode cX10_story 91 = .ok (.aload_n 0, 1) := by decide +kernel
theorem dX10_story_92 : decode cX10_story 92 = .ok (.getfield 7, 3) := by decide +kernel
theorem dX10_story_95 : decode cX10_story 95 = .ok (.aload_n 0, 1) := by decide +kernel
theorem dX10_story_96 : decode cX10_story 96 = .ok (.iload 4, 2) := by decide +kernel
theorem dX10_story_98 : decode cX10_story 98 = .ok (.invokevirtual 87, 3) := by decide +kernel
theorem dX10_story_101 : decode cX10_story 101 = .ok (.iconst 3, 1) := by decide +kernel
theorem dX10_story_102 : decode cX10_story 102 = .ok (.iadd, 1) := by decide +kernel
theorem dX10_story_103 : decode cX10_story 103 = .ok (.iaload, 1) := by decide +kernel
theorem dX10_story_104 : decode cX10_story 104 = .ok (.invokestatic 148, 3) := by decide +kernel
theorem dX10_story_107 : decode cX10_story 107 = .ok (.goto 4, 3) := by decide +kernel
theorem dX10_story_110 : decode cX10_story 110 = .ok (.iconst (-1), 1) := by decide +kernel
theorem dX10_story_111 : decode cX10_story 111 = .ok (.iastore, 1) := by decide +kernel
theorem dX10_story_112 : decode cX10_story 112 = .ok (.iinc 5 1, 3) := by decide +kernel
theorem dX10_story_115 : decode cX10_story 115 = .ok (.goto (-55), 3) := by decide +kernel
theorem dX10_story_118 : decode cX10_story 118 = .ok (.iinc 3 1, 3) := by decide +kernel
theorem dX10_story_121 : decode cX10_story 121 = .ok (.goto (-86), 3) := by decide +kernel
theorem dX10_story_124 : decode cX10_story 124 = .ok (.aload_n 0, 1) := by decide +kernel
theorem dX10_story_125 : decode cX10_story 125 = .ok (.iconst (-1), 1) := by decide +kernel
theorem dX10_story_126 : decode cX10_story 126 = .ok (.putfield 305, 3) := by decide +kernel
theorem dX10_story_129 : decode cX10_story 129 = .ok (.aload_n 0, 1) := by decide +kernel
theorem dX10_story_130 : decode cX10_story 130 = .ok (.iconst 0, 1) := by decide +kernel
theorem dX10_story_131 : decode cX10_story 131 = .ok (.putfield 308, 3) := by decide +kernel
theorem dX10_story_134 : decode cX10_story 134 = .ok (.aload_n 0, 1) := by decide +kernel
theorem dX10_story_135 : decode cX10_story 135 = .ok (.iload_n 1, 1) := by decide +kernel
theorem dX10_story_136 : decode cX10_story 136 = .ok (.putfield 302, 3) := by decide +kernel
theorem dX10_story_139 : decode cX10_story 139 = .ok (.aload_n 0, 1) := by decide +kernel
theorem dX10_story_140 : decode cX10_story 140 = .ok (.iconst 0, 1) := by decide +kernel
theorem dX10_story_141 : decode cX10_story 141 = .ok (.iconst 0, 1) := by decide +kernel
theorem dX10_story_142 : decode cX10_story 142 = .ok (.iconst 0, 1) := by decide +kernel
theorem dX10_story_143 : decode cX10_story 143 = .ok (.invokevirtual 311, 3) := by decide +kernel
theorem dX10_story_146 : decode cX10_story 146 = .ok (.aload_n 0, 1) := by decide +kernel
theorem dX10_story_147 : decode cX10_story 147 = .ok (.getfield 305, 3) := by decide +kernel
theorem dX10_story_150 : decode cX10_story 150 = .ok (.ifCond .ge 6, 3) := by decide +kernel
theorem dX10_story_153 : decode cX10_story 153 = .ok (.ldc 73, 2) := by decide +kernel
theorem dX10_story_155 : decode cX10_story 155 = .ok (.ireturn, 1) := by decide +kernel
theorem dX10_story_156 : decode cX10_story 156 = .ok (.iload_n 2, 1) := by decide +kernel
theorem dX10_story_157 : decode cX10_story 157 = .ok (.ifCond .ne 10, 3) := by decide +kernel
theorem dX10_story_160 : decode cX10_story 160 = .ok (.aload_n 0, 1) := by decide +kernel
theorem dX10_story_161 : decode cX10_story 161 = .ok (.getfield 305, 3) := by decide +kernel
theorem dX10_story_164 : decode cX10_story 164 = .ok (.goto 23, 3) := by decide +kernel
theorem dX10_story_167 : decode cX10_story 167 = .ok (.iload_n 2, 1) := by decide +kernel
theorem dX10_story_168 : decode cX10_story 168 = .ok (.iconst 1, 1) := by decide +kernel
theorem dX10_story_169 : decode cX10_story 169 = .ok (.if_icmp .ne 10, 3) := by decide +kernel
theorem dX10_story_172 : decode cX10_story 172 = .ok (.aload_n 0, 1) := by decide +kernel
theorem dX10_story_173 : decode cX10_story 173 = .ok (.getfield 308, 3) := by decide +kernel
theorem dX10_story_176 : decode cX10_story 176 = .ok (.goto 11, 3) := by decide +kernel
theorem dX10_story_179 : decode cX10_story 179 = .ok (.aload_n 0, 1) := by decide +kernel
theorem dX10_story_180 : decode cX10_story 180 = .ok (.getfield 58, 3) := by decide +kernel
theorem dX10_story_183 : decode cX10_story 183 = .ok (.iload_n 2, 1) := by decide +kernel
theorem dX10_story_184 : decode cX10_story 184 = .ok (.iconst 2, 1) := by decide +kernel
theorem dX10_story_185 : decode cX10_story 185 = .ok (.isub, 1) := by decide +kernel
theorem dX10_story_186 : decode cX10_story 186 = .ok (.iaload, 1) := by decide +kernel
theorem dX10_story_187 : decode cX10_story 187 = .ok (.ireturn, 1) := by decide +kernel
theorem dX10_clear_0 : decode cX10_clear 0 = .ok (.aload_n 0, 1) := by decide +kernel
theorem dX10_clear_1 : decode cX10_clear 1 = .ok (.iconst 3, 1) := by decide +kernel
theorem dX10_clear_2 : decode cX10_clear 2 = .ok (.iconst 0, 1) := by decide +kernel
theorem dX10_clear_3 : decode cX10_clear 3 = .ok (.invokevirtual 155, 3) := by decide +kernel
theorem dX10_clear_6 : decode cX10_clear 6 = .ok (.ireturn, 1) := by decide +kernel
theorem dX10_isPlace_0 : decode cX10_isPlace 0 = .ok (.iload_n 0, 1) := by decide +kernel
theorem dX10_isPlace_1 : decode cX10_isPlace 1 = .ok (.i2l, 1) := by decide +kernel
theorem dX10_isPlace_2 : decode cX10_isPlace 2 = .ok (.lconst 0, 1) := by decide +kernel
theorem dX10_isPlace_3 : decode cX10_isPlace 3 = .ok (.ldc2_w 267, 3) := by decide +kernel
theorem dX10_isPlace_6 : decode cX10_isPlace 6 = .ok (.invokestatic 74, 3) := by decide +kernel
theorem dX10_isPlace_9 : decode cX10_isPlace 9 = .ok (.ireturn, 1) := by decide +kernel
theorem dX10_road_0 : decode cX10_road 0 = .ok (.iload_n 1, 1) := by decide +kernel
theorem dX10_road_1 : decode cX10_road 1 = .ok (.invokestatic 317, 3) := by decide +kernel
theorem dX10_road_4 : decode cX10_road 4 = .ok (.ifCond .eq 27, 3) := by decide +kernel
theorem dX10_road_7 : decode cX10_road 7 = .ok (.iload_n 2, 1) := by decide +kernel
theorem dX10_road_8 : decode cX10_road 8 = .ok (.invokestatic 317, 3) := by decide +kernel
theorem dX10_road_11 : decode cX10_road 11 = .ok (.ifCond .eq 20, 3) := by decide +kernel
theorem dX10_road_14 : decode cX10_road 14 = .ok (.iload_n 1, 1) := by decide +kernel
theorem dX10_road_15 : decode cX10_road 15 = .ok (.iload_n 2, 1) := by decide +kernel
theorem dX10_road_16 : decode cX10_road 16 = .ok (.if_icmp .eq 15, 3) := by decide +kernel
theorem dX10_road_19 : decode cX10_road 19 = .ok (.iload_n 3, 1) := by decide +kernel
theorem dX10_road_20 : decode cX10_road 20 = .ok (.i2l, 1) := by decide +kernel
theorem dX10_road_21 : decode cX10_road 21 = .ok (.lconst 0, 1) := by decide +kernel
theorem dX10_road_22 : decode cX10_road 22 = .ok (.ldc2_w 320, 3) := by decide +kernel
theorem dX10_road_25 : decode cX10_road 25 = .ok (.invokestatic 74, 3) := by decide +kernel
theorem dX10_road_28 : decode cX10_road 28 = .ok (.ifCond .ne 6, 3) := by decide +kernel
theorem dX10_road_31 : decode cX10_road 31 = .ok (.ldc 84, 2) := by decide +kernel
theorem dX10_road_33 : decode cX10_road 33 = .ok (.ireturn, 1) := by decide +kernel
theorem dX10_road_34 : decode cX10_road 34 = .ok (.aload_n 0, 1) := by decide +kernel
theorem dX10_road_35 : decode cX10_road 35 = .ok (.getfield 7, 3) := by decide +kernel
theorem dX10_road_38 : decode cX10_road 38 = .ok (.sipush 360, 3) := by decide +kernel
theorem dX10_road_41 : decode cX10_road 41 = .ok (.bipush 6, 2) := by decide +kernel
theorem dX10_road_43 : decode cX10_road 43 = .ok (.iload_n 2, 1) := by decide +kernel
theorem dX10_road_44 : decode cX10_road 44 = .ok (.imul, 1) := by decide +kernel
theorem dX10_road_45 : decode cX10_road 45 = .ok (.iadd, 1) := by decide +kernel
theorem dX10_road_46 : decode cX10_road 46 = .ok (.iload_n 1, 1) := by decide +kernel
theorem dX10_road_47 : decode cX10_road 47 = .ok (.iadd, 1) := by decide +kernel
theorem dX10_road_48 : decode cX10_road 48 = .ok (.iload_n 3, 1) := by decide +kernel
theorem dX10_road_49 : decode cX10_road 49 = .ok (.iastore, 1) := by decide +kernel
theorem dX10_road_50 : decode cX10_road 50 = .ok (.aload_n 0, 1) := by decide +kernel
theorem dX10_road_51 : decode cX10_road 51 = .ok (.sipush 360, 3) := by decide +kernel
theorem dX10_road_54 : decode cX10_road 54 = .ok (.bipush 6, 2) := by decide +kernel
theorem dX10_road_56 : decode cX10_road 56 = .ok (.iload_n 1, 1) := by decide +kernel
theorem dX10_road_57 : decode cX10_road 57 = .ok (.imul, 1) := by decide +kernel
theorem dX10_road_58 : decode cX10_road 58 = .ok (.iadd, 1) := by decide +kernel
theorem dX10_road_59 : decode cX10_road 59 = .ok (.iload_n 2, 1) := by decide +kernel
theorem dX10_road_60 : decode cX10_road 60 = .ok (.iadd, 1) := by decide +kernel
theorem dX10_road_61 : decode cX10_road 61 = .ok (.iload_n 3, 1) := by decide +kernel
theorem dX10_road_62 : decode cX10_road 62 = .ok (.invokevirtual 155, 3) := by decide +kernel
theorem dX10_road_65 : decode cX10_road 65 = .ok (.ireturn, 1) := by decide +kernel
theorem dX10_daysFrom_0 : decode cX10_daysFrom 0 = .ok (.iconst 0, 1) := by decide +kernel
theorem dX10_daysFrom_1 : decode cX10_daysFrom 1 = .ok (.istore_n 3, 1) := by decide +kernel
theorem dX10_daysFrom_2 : decode cX10_daysFrom 2 = .ok (.iload_n 3, 1) := by decide +kernel
theorem dX10_daysFrom_3 : decode cX10_daysFrom 3 = .ok (.bipush 6, 2) := by decide +kernel
theorem dX10_daysFrom_5 : decode cX10_daysFrom 5 = .ok (.if_icmp .ge 27, 3) := by decide +kernel
theorem dX10_daysFrom_8 : decode cX10_daysFrom 8 = .ok (.aload_n 0, 1) := by decide +kernel
theorem dX10_daysFrom_9 : decode cX10_daysFrom 9 = .ok (.getfield 61, 3) := by decide +kernel
theorem dX10_daysFrom_12 : decode cX10_daysFrom 12 = .ok (.iload_n 3, 1) := by decide +kernel
theorem dX10_daysFrom_13 : decode cX10_daysFrom 13 = .ok (.iload_n 3, 1) := by decide +kernel
theorem dX10_daysFrom_14 : decode cX10_daysFrom 14 = .ok (.iload_n 1, 1) := by decide +kernel
theorem dX10_daysFrom_15 : decode cX10_daysFrom 15 = .ok (.if_icmp .ne 7, 3) := by decide +kernel
theorem dX10_daysFrom_18 : decode cX10_daysFrom 18 = .ok (.iconst 0, 1) := by decide +kernel
theorem dX10_daysFrom_19 : decode cX10_daysFrom 19 = .ok (.goto 6, 3) := by decide +kernel
theorem dX10_daysFrom_22 : decode cX10_daysFrom 22 = .ok (.ldc_w 322, 3) := by decide +kernel
theorem dX10_daysFrom_25 : decode cX10_daysFrom 25 = .ok (.iastore, 1) := by decide +kernel
theorem dX10_daysFrom_26 : decode cX10_daysFrom 26 = .ok (.iinc 3 1, 3) := by decide +kernel
theorem dX10_daysFrom_29 : decode cX10_daysFrom 29 = .ok (.goto (-27), 3) := by decide +kernel
theorem dX10_daysFrom_32 : decode cX10_daysFrom 32 = .ok (.iconst 0, 1) := by decide +kernel
theorem dX10_daysFrom_33 : decode cX10_daysFrom 33 = .ok (.istore_n 3, 1) := by decide +kernel
theorem dX10_daysFrom_34 : decode cX10_daysFrom 34 = .ok (.iload_n 3, 1) := by decide +kernel
theorem dX10_daysFrom_35 : decode cX10_daysFrom 35 = .ok (.bipush 6, 2) := by decide +kernel
theorem dX10_daysFrom_37 : decode cX10_daysFrom 37 = .ok (.if_icmp .ge 102, 3) := by decide +kernel
theorem dX10_daysFrom_40 : decode cX10_daysFrom 40 = .ok (.iconst 0, 1) := by decide +kernel
theorem dX10_daysFrom_41 : decode cX10_daysFrom 41 = .ok (.istore 4, 2) := by decide +kernel
theorem dX10_daysFrom_43 : decode cX10_daysFrom 43 = .ok (.iload 4, 2) := by decide +kernel
theorem dX10_daysFrom_45 : decode cX10_daysFrom 45 = .ok (.bipush 6, 2) := by decide +kernel
theorem dX10_daysFrom_47 : decode cX10_daysFrom 47 = .ok (.if_icmp .ge 86, 3) := by decide +kernel
theorem dX10_daysFrom_50 : decode cX10_daysFrom 50 = .ok (.iconst 0, 1) := by decide +kernel
theorem dX10_daysFrom_51 : decode cX10_daysFrom 51 = .ok (.istore 5, 2) := by decide +kernel
theorem dX10_daysFrom_53 : decode cX10_daysFrom 53 = .ok (.iload 5, 2) := by decide +kernel
theorem dX10_daysFrom_55 : decode cX10_daysFrom 55 = .ok (.bipush 6, 2) := by decide +kernel
theorem dX10_daysFrom_57 : decode cX10_daysFrom 57 = .ok (.if_icmp .ge 70, 3) := by decide +kernel
theorem dX10_daysFrom_60 : decode cX10_daysFrom 60 = .ok (.aload_n 0, 1) := by decide +kernel
theorem dX10_daysFrom_61 : decode cX10_daysFrom 61 = .ok (.getfield 7, 3) := by decide +kernel
theorem dX10_daysFrom_64 : decode cX10_daysFrom 64 = .ok (.sipush 360, 3) := by decide +kernel
theorem dX10_daysFrom_67 : decode cX10_daysFrom 67 = .ok (.bipush 6, 2) := by decide +kernel
theorem dX10_daysFrom_69 : decode cX10_daysFrom 69 = .ok (.iload 4, 2) := by decide +kernel
theorem dX10_daysFrom_71 : decode cX10_daysFrom 71 = .ok (.imul, 1) := by decide +kernel
theorem dX10_daysFrom_72 : decode cX10_daysFrom 72 = .ok (.iadd, 1) := by decide +kernel
theorem dX10_daysFrom_73 : decode cX10_daysFrom 73 = .ok (.iload 5, 2) := by decide +kernel
theorem dX10_daysFrom_75 : decode cX10_daysFrom 75 = .ok (.iadd, 1) := by decide +kernel
theorem dX10_daysFrom_76 : decode cX10_daysFrom 76 = .ok (.iaload, 1) := by decide +kernel
theorem dX10_daysFrom_77 : decode cX10_daysFrom 77 = .ok (.istore 6, 2) := by decide +kernel
theorem dX10_daysFrom_79 : decode cX10_daysFrom 79 = .ok (.aload_n 0, 1) := by decide +kernel
theorem dX10_daysFrom_80 : decode cX10_daysFrom 80 = .ok (.getfield 61, 3) := by decide +kernel
theorem dX10_daysFrom_83 : decode cX10_daysFrom 83 = .ok (.iload 5, 2) := by decide +kernel
theorem dX10_daysFrom_85 : decode cX10_daysFrom 85 = .ok (.iload 6, 2) := by decide +kernel
theorem dX10_daysFrom_87 : decode cX10_daysFrom 87 = .ok (.ifCond .le 26, 3) := by decide +kernel
theorem dX10_daysFrom_90 : decode cX10_daysFrom 90 = .ok (.aload_n 0, 1) := by decide +kernel
theorem dX10_daysFrom_91 : decode cX10_daysFrom 91 = .ok (.getfield 61, 3) := by decide +kernel
theorem dX10_daysFrom_94 : decode cX10_daysFrom 94 = .ok (.iload 5, 2) := by decide +kernel
theorem dX10_daysFrom_96 : decode cX10_daysFrom 96 = .ok (.iaload, 1) := by decide +kernel
theorem dX10_daysFrom_97 : decode cX10_daysFrom 97 = .ok (.aload_n 0, 1) := by decide +kernel
theorem dX10_daysFrom_98 : decode cX10_daysFrom 98 = .ok (.getfield 61, 3) := by decide +kernel
theorem dX10_daysFrom_101 : decode cX10_daysFrom 101 = .ok (.iload 4, 2) := by decide +kernel
theorem dX10_daysFrom_103 : decode cX10_daysFrom 103 = .ok (.iaload, 1) := by decide +kernel
theorem dX10_daysFrom_104 : decode cX10_daysFrom 104 = .ok (.iload 6, 2) := by decide +kernel
theorem dX10_daysFrom_106 : decode cX10_daysFrom 106 = .ok (.iadd, 1) := by decide +kernel
theorem dX10_daysFrom_107 : decode cX10_daysFrom 107 = .ok (.invokestatic 323, 3) := by decide +kernel
theorem dX10_daysFrom_110 : decode cX10_daysFrom 110 = .ok (.goto 10, 3) := by decide +kernel
theorem dX10_daysFrom_113 : decode cX10_daysFrom 113 = .ok (.aload_n 0, 1) := by decide +kernel
theorem dX10_daysFrom_114 : decode cX10_daysFrom 114 = .ok (.getfield 61, 3) := by decide +kernel
theorem dX10_daysFrom_117 : decode cX10_daysFrom 117 = .ok (.iload 5, 2) := by decide +kernel
theorem dX10_daysFrom_119 : decode cX10_daysFrom 119 = .ok (.iaload, 1) := by decide +kernel
theorem dX10_daysFrom_120 : decode cX10_daysFrom 120 = .ok (.iastore, 1) := by decide +kernel
theorem dX10_daysFrom_121 : decode cX10_daysFrom 121 = .ok (.iinc 5 1, 3) := by decide +kernel
theorem dX10_daysFrom_124 : decode cX10_daysFrom 124 = .ok (.goto (-71), 3) := by decide +kernel
theorem dX10_daysFrom_127 : decode cX10_daysFrom 127 = .ok (.iinc 4 1, 3) := by decide +kernel
theorem dX10_daysFrom_130 : decode cX10_daysFrom 130 = .ok (.goto (-87), 3) := by decide +kernel
theorem dX10_daysFrom_133 : decode cX10_daysFrom 133 = .ok (.iinc 3 1, 3) := by decide +kernel
theorem dX10_daysFrom_136 : decode cX10_daysFrom 136 = .ok (.goto (-102), 3) := by decide +kernel
theorem dX10_daysFrom_139 : decode cX10_daysFrom 139 = .ok (.aload_n 0, 1) := by decide +kernel
theorem dX10_daysFrom_140 : decode cX10_daysFrom 140 = .ok (.getfield 61, 3) := by decide +kernel
theorem dX10_daysFrom_143 : decode cX10_daysFrom 143 = .ok (.iload_n 2, 1) := by decide +kernel
theorem dX10_daysFrom_144 : decode cX10_daysFrom 144 = .ok (.iaload, 1) := by decide +kernel
theorem dX10_daysFrom_145 : decode cX10_daysFrom 145 = .ok (.ldc_w 322, 3) := by decide +kernel
theorem dX10_daysFrom_148 : decode cX10_daysFrom 148 = .ok (.if_icmp .ge 12, 3) := by decide +kernel
theorem dX10_daysFrom_151 : decode cX10_daysFrom 151 = .ok (.aload_n 0, 1) := by decide +kernel
theorem dX10_daysFrom_152 : decode cX10_daysFrom 152 = .ok (.getfield 61, 3) := by decide +kernel
theorem dX10_daysFrom_155 : decode cX10_daysFrom 155 = .ok (.iload_n 2, 1) := by decide +kernel
theorem dX10_daysFrom_156 : decode cX10_daysFrom 156 = .ok (.iaload, 1) := by decide +kernel
theorem dX10_daysFrom_157 : decode cX10_daysFrom 157 = .ok (.goto 4, 3) := by decide +kernel
theorem dX10_daysFrom_160 : decode cX10_daysFrom 160 = .ok (.iconst (-1), 1) := by decide +kernel
theorem dX10_daysFrom_161 : decode cX10_daysFrom 161 = .ok (.ireturn, 1) := by decide +kernel
theorem dX10_far_0 : decode cX10_far 0 = .ok (.iload_n 1, 1) := by decide +kernel
theorem dX10_far_1 : decode cX10_far 1 = .ok (.invokestatic 317, 3) := by decide +kernel
theorem dX10_far_4 : decode cX10_far 4 = .ok (.ifCond .eq 22, 3) := by decide +kernel
theorem dX10_far_7 : decode cX10_far 7 = .ok (.iload_n 2, 1) := by decide +kernel
theorem dX10_far_8 : decode cX10_far 8 = .ok (.invokestatic 317, 3) := by decide +kernel
theorem dX10_far_11 : decode cX10_far 11 = .ok (.ifCond .eq 15, 3) := by decide +kernel
theorem dX10_far_14 : decode cX10_far 14 = .ok (.aload_n 0, 1) := by decide +kernel
theorem dX10_far_15 : decode cX10_far 15 = .ok (.iload_n 1, 1) := by decide +kernel
theorem dX10_far_16 : decode cX10_far 16 = .ok (.iload_n 2, 1) := by decide +kernel
theorem dX10_far_17 : decode cX10_far 17 = .ok (.invokevirtual 326, 3) := by decide +kernel
theorem dX10_far_20 : decode cX10_far 20 = .ok (.invokestatic 141, 3) := by decide +kernel
theorem dX10_far_23 : decode cX10_far 23 = .ok (.goto 5, 3) := by decide +kernel
theorem dX10_far_26 : decode cX10_far 26 = .ok (.ldc 84, 2) := by decide +kernel
theorem dX10_far_28 : decode cX10_far 28 = .ok (.ireturn, 1) := by decide +kernel
theorem dX10_hasDay_0 : decode cX10_hasDay 0 = .ok (.iconst 0, 1) := by decide +kernel
theorem dX10_hasDay_1 : decode cX10_hasDay 1 = .ok (.istore_n 2, 1) := by decide +kernel
theorem dX10_hasDay_2 : decode cX10_hasDay 2 = .ok (.iconst 0, 1) := by decide +kernel
theorem dX10_hasDay_3 : decode cX10_hasDay 3 = .ok (.istore_n 3, 1) := by decide +kernel
theorem dX10_hasDay_4 : decode cX10_hasDay 4 = .ok (.iload_n 3, 1) := by decide +kernel
theorem dX10_hasDay_5 : decode cX10_hasDay 5 = .ok (.aload_n 0, 1) := by decide +kernel
theorem dX10_hasDay_6 : decode cX10_hasDay 6 = .ok (.getfield 7, 3) := by decide +kernel
theorem dX10_hasDay_9 : decode cX10_hasDay 9 = .ok (.iconst 4, 1) := by decide +kernel
theorem dX10_hasDay_10 : decode cX10_hasDay 10 = .ok (.iaload, 1) := by decide +kernel
theorem dX10_hasDay_11 : decode cX10_hasDay 11 = .ok (.if_icmp .ge 35, 3) := by decide +kernel
theorem dX10_hasDay_14 : decode cX10_hasDay 14 = .ok (.iload_n 2, 1) := by decide +kernel
theorem dX10_hasDay_15 : decode cX10_hasDay 15 = .ok (.ifCond .ne 19, 3) := by decide +kernel
theorem dX10_hasDay_18 : decode cX10_hasDay 18 = .ok (.aload_n 0, 1) := by decide +kernel
theorem dX10_hasDay_19 : decode cX10_hasDay 19 = .ok (.getfield 7, 3) := by decide +kernel
theorem dX10_hasDay_22 : decode cX10_hasDay 22 = .ok (.sipush 400, 3) := by decide +kernel
theorem dX10_hasDay_25 : decode cX10_hasDay 25 = .ok (.iconst 2, 1) := by decide +kernel
theorem dX10_hasDay_26 : decode cX10_hasDay 26 = .ok (.iload_n 3, 1) := by decide +kernel
theorem dX10_hasDay_27 : decode cX10_hasDay 27 = .ok (.imul, 1) := by decide +kernel
theorem dX10_hasDay_28 : decode cX10_hasDay 28 = .ok (.iadd, 1) := by decide +kernel
theorem dX10_hasDay_29 : decode cX10_hasDay 29 = .ok (.iaload, 1) := by decide +kernel
theorem dX10_hasDay_30 : decode cX10_hasDay 30 = .ok (.iload_n 1, 1) := by decide +kernel
theorem dX10_hasDay_31 : decode cX10_hasDay 31 = .ok (.if_icmp .ne 7, 3) := by decide +kernel
theorem dX10_hasDay_34 : decode cX10_hasDay 34 = .ok (.iconst 1, 1) := by decide +kernel
theorem dX10_hasDay_35 : decode cX10_hasDay 35 = .ok (.goto 4, 3) := by decide +kernel
theorem dX10_hasDay_38 : decode cX10_hasDay 38 = .ok (.iconst 0, 1) := by decide +kernel
theorem dX10_hasDay_39 : decode cX10_hasDay 39 = .ok (.istore_n 2, 1) := by decide +kernel
theorem dX10_hasDay_40 : decode cX10_hasDay 40 = .ok (.iinc 3 1, 3) := by decide +kernel
theorem dX10_hasDay_43 : decode cX10_hasDay 43 = .ok (.goto (-39), 3) := by decide +kernel
theorem dX10_hasDay_46 : decode cX10_hasDay 46 = .ok (.iload_n 2, 1) := by decide +kernel
theorem dX10_hasDay_47 : decode cX10_hasDay 47 = .ok (.ireturn, 1) := by decide +kernel
theorem dX10_diary_0 : decode cX10_diary 0 = .ok (.iload_n 1, 1) := by decide +kernel
theorem dX10_diary_1 : decode cX10_diary 1 = .ok (.i2l, 1) := by decide +kernel
theorem dX10_diary_2 : decode cX10_diary 2 = .ok (.lconst 0, 1) := by decide +kernel
theorem dX10_diary_3 : decode cX10_diary 3 = .ok (.ldc2_w 97, 3) := by decide +kernel
theorem dX10_diary_6 : decode cX10_diary 6 = .ok (.invokestatic 74, 3) := by decide +kernel
theorem dX10_diary_9 : decode cX10_diary 9 = .ok (.ifCond .eq 10, 3) := by decide +kernel
theorem dX10_diary_12 : decode cX10_diary 12 = .ok (.iload_n 2, 1) := by decide +kernel
theorem dX10_diary_13 : decode cX10_diary 13 = .ok (.invokestatic 317, 3) := by decide +kernel
theorem dX10_diary_16 : decode cX10_diary 16 = .ok (.ifCond .ne 6, 3) := by decide +kernel
theorem dX10_diary_19 : decode cX10_diary 19 = .ok (.ldc 84, 2) := by decide +kernel
theorem dX10_diary_21 : decode cX10_diary 21 = .ok (.ireturn, 1) := by decide +kernel
theorem dX10_diary_22 : decode cX10_diary 22 = .ok (.aload_n 0, 1) := by decide +kernel
theorem dX10_diary_23 : decode cX10_diary 23 = .ok (.iload_n 1, 1) := by decide +kernel
theorem dX10_diary_24 : decode cX10_diary 24 = .ok (.invokevirtual 329, 3) := by decide +kernel
theorem dX10_diary_27 : decode cX10_diary 27 = .ok (.ifCond .eq 6, 3) := by decide +kernel
theorem dX10_diary_30 : decode cX10_diary 30 = .ok (.ldc 85, 2) := by decide +kernel
theorem dX10_diary_32 : decode cX10_diary 32 = .ok (.ireturn, 1) := by decide +kernel
theorem dX10_diary_33 : decode cX10_diary 33 = .ok (.aload_n 0, 1) := by decide +kernel
theorem dX10_diary_34 : decode cX10_diary 34 = .ok (.getfield 7, 3) := by decide +kernel
theorem dX10_diary_37 : decode cX10_diary 37 = .ok (.iconst 4, 1) := by decide +kernel
theorem dX10_diary_38 : decode cX10_diary 38 = .ok (.iaload, 1) := by decide +kernel
theorem dX10_diary_39 : decode cX10_diary 39 = .ok (.bipush 20, 2) := by decide +kernel
theorem dX10_diary_41 : decode cX10_diary 41 = .ok (.if_icmp .ne 6, 3) := by decide +kernel
theorem dX10_diary_44 : decode cX10_diary 44 = .ok (.ldc 86, 2) := by decide +kernel
theorem dX10_diary_46 : decode cX10_diary 46 = .ok (.ireturn, 1) := by decide +kernel
theorem dX10_diary_47 : decode cX10_diary 47 = .ok (.aload_n 0, 1) := by decide +kernel
theorem dX10_diary_48 : decode cX10_diary 48 = .ok (.getfield 7, 3) := by decide +kernel
theorem dX10_diary_51 : decode cX10_diary 51 = .ok (.sipush 400, 3) := by decide +kernel
theorem dX10_diary_54 : decode cX10_diary 54 = .ok (.iconst 2, 1) := by decide +kernel
theorem dX10_diary_55 : decode cX10_diary 55 = .ok (.aload_n 0, 1) := by decide +kernel
theorem dX10_diary_56 : decode cX10_diary 56 = .ok (.getfield 7, 3) := by decide +kernel
theorem dX10_diary_59 : decode cX10_diary 59 = .ok (.iconst 4, 1) := by decide +kernel
theorem dX10_diary_60 : decode cX10_diary 60 = .ok (.iaload, 1) := by decide +kernel
theorem dX10_diary_61 : decode cX10_diary 61 = .ok (.imul, 1) := by decide +kernel
theorem dX10_diary_62 : decode cX10_diary 62 = .ok (.iadd, 1) := by decide +kernel
theorem dX10_diary_63 : decode cX10_diary 63 = .ok (.iload_n 1, 1) := by decide +kernel
theorem dX10_diary_64 : decode cX10_diary 64 = .ok (.iastore, 1) := by decide +kernel
theorem dX10_diary_65 : decode cX10_diary 65 = .ok (.aload_n 0, 1) := by decide +kernel
theorem dX10_diary_66 : decode cX10_diary 66 = .ok (.getfield 7, 3) := by decide +kernel
theorem dX10_diary_69 : decode cX10_diary 69 = .ok (.sipush 400, 3) := by decide +kernel
theorem dX10_diary_72 : decode cX10_diary 72 = .ok (.iconst 2, 1) := by decide +kernel
theorem dX10_diary_73 : decode cX10_diary 73 = .ok (.aload_n 0, 1) := by decide +kernel
theorem dX10_diary_74 : decode cX10_diary 74 = .ok (.getfield 7, 3) := by decide +kernel
theorem dX10_diary_77 : decode cX10_diary 77 = .ok (.iconst 4, 1) := by decide +kernel
theorem dX10_diary_78 : decode cX10_diary 78 = .ok (.iaload, 1) := by decide +kernel
theorem dX10_diary_79 : decode cX10_diary 79 = .ok (.imul, 1) := by decide +kernel
theorem dX10_diary_80 : decode cX10_diary 80 = .ok (.iadd, 1) := by decide +kernel
theorem dX10_diary_81 : decode cX10_diary 81 = .ok (.iconst 1, 1) := by decide +kernel
theorem dX10_diary_82 : decode cX10_diary 82 = .ok (.iadd, 1) := by decide +kernel
theorem dX10_diary_83 : decode cX10_diary 83 = .ok (.iload_n 2, 1) := by decide +kernel
theorem dX10_diary_84 : decode cX10_diary 84 = .ok (.iastore, 1) := by decide +kernel
theorem dX10_diary_85 : decode cX10_diary 85 = .ok (.aload_n 0, 1) := by decide +kernel
theorem dX10_diary_86 : decode cX10_diary 86 = .ok (.getfield 7, 3) := by decide +kernel
theorem dX10_diary_89 : decode cX10_diary 89 = .ok (.iconst 4, 1) := by decide +kernel
theorem dX10_diary_90 : decode cX10_diary 90 = .ok (.dup2, 1) := by decide +kernel
theorem dX10_diary_91 : decode cX10_diary 91 = .ok (.iaload, 1) := by decide +kernel
theorem dX10_diary_92 : decode cX10_diary 92 = .ok (.iconst 1, 1) := by decide +kernel
theorem dX10_diary_93 : decode cX10_diary 93 = .ok (.iadd, 1) := by decide +kernel
theorem dX10_diary_94 : decode cX10_diary 94 = .ok (.iastore, 1) := by decide +kernel
theorem dX10_diary_95 : decode cX10_diary 95 = .ok (.aload_n 0, 1) := by decide +kernel
theorem dX10_diary_96 : decode cX10_diary 96 = .ok (.getfield 7, 3) := by decide +kernel
theorem dX10_diary_99 : decode cX10_diary 99 = .ok (.iconst 4, 1) := by decide +kernel
theorem dX10_diary_100 : decode cX10_diary 100 = .ok (.iaload, 1) := by decide +kernel
theorem dX10_diary_101 : decode cX10_diary 101 = .ok (.ireturn, 1) := by decide +kernel
theorem dX10_could_0 : decode cX10_could 0 = .ok (.iload_n 1, 1) := by decide +kernel
theorem dX10_could_1 : decode cX10_could 1 = .ok (.invokestatic 317, 3) := by decide +kernel
theorem dX10_could_4 : decode cX10_could 4 = .ok (.ifCond .eq 27, 3) := by decide +kernel
theorem dX10_could_7 : decode cX10_could 7 = .ok (.iload_n 2, 1) := by decide +kernel
theorem dX10_could_8 : decode cX10_could 8 = .ok (.i2l, 1) := by decide +kernel
theorem dX10_could_9 : decode cX10_could 9 = .ok (.lconst 0, 1) := by decide +kernel
theorem dX10_could_10 : decode cX10_could 10 = .ok (.ldc2_w 97, 3) := by decide +kernel
theorem dX10_could_13 : decode cX10_could 13 = .ok (.invokestatic 74, 3) := by decide +kernel
theorem dX10_could_16 : decode cX10_could 16 = .ok (.ifCond .eq 15, 3) := by decide +kernel
theorem dX10_could_19 : decode cX10_could 19 = .ok (.iload_n 3, 1) := by decide +kernel
theorem dX10_could_20 : decode cX10_could 20 = .ok (.i2l, 1) := by decide +kernel
theorem dX10_could_21 : decode cX10_could 21 = .ok (.lconst 1, 1) := by decide +kernel
theorem dX10_could_22 : decode cX10_could 22 = .ok (.ldc2_w 332, 3) := by decide +kernel
theorem dX10_could_25 : decode cX10_could 25 = .ok (.invokestatic 74, 3) := by decide +kernel
theorem dX10_could_28 : decode cX10_could 28 = .ok (.ifCond .ne 6, 3) := by decide +kernel
theorem dX10_could_31 : decode cX10_could 31 = .ok (.ldc 84, 2) := by decide +kernel
theorem dX10_could_33 : decode cX10_could 33 = .ok (.ireturn, 1) := by decide +kernel
theorem dX10_could_34 : decode cX10_could 34 = .ok (.iload_n 2, 1) := by decide +kernel
theorem dX10_could_35 : decode cX10_could 35 = .ok (.iload_n 3, 1) := by decide +kernel
theorem dX10_could_36 : decode cX10_could 36 = .ok (.iadd, 1) := by decide +kernel
theorem dX10_could_37 : decode cX10_could 37 = .ok (.iconst 1, 1) := by decide +kernel
theorem dX10_could_38 : decode cX10_could 38 = .ok (.isub, 1) := by decide +kernel
theorem dX10_could_39 : decode cX10_could 39 = .ok (.istore 4, 2) := by decide +kernel
theorem dX10_could_41 : decode cX10_could 41 = .ok (.iconst (-1), 1) := by decide +kernel
theorem dX10_could_42 : decode cX10_could 42 = .ok (.istore 5, 2) := by decide +kernel
theorem dX10_could_44 : decode cX10_could 44 = .ok (.iconst (-1), 1) := by decide +kernel
theorem dX10_could_45 : decode cX10_could 45 = .ok (.istore 6, 2) := by decide +kernel
theorem dX10_could_47 : decode cX10_could 47 = .ok (.iconst 0, 1) := by decide +kernel
theorem dX10_could_48 : decode cX10_could 48 = .ok (.istore 7, 2) := by decide +kernel
theorem dX10_could_50 : decode cX10_could 50 = .ok (.iload 7, 2) := by decide +kernel
theorem dX10_could_52 : decode cX10_could 52 = .ok (.aload_n 0, 1) := by decide +kernel
theorem dX10_could_53 : decode cX10_could 53 = .ok (.getfield 7, 3) := by decide +kernel
theorem dX10_could_56 : decode cX10_could 56 = .ok (.iconst 4, 1) := by decide +kernel
theorem dX10_could_57 : decode cX10_could 57 = .ok (.iaload, 1) := by decide +kernel
theorem dX10_could_58 : decode cX10_could 58 = .ok (.if_icmp .ge 135, 3) := by decide +kernel
theorem dX10_could_61 : decode cX10_could 61 = .ok (.aload_n 0, 1) := by decide +kernel
theorem dX10_could_62 : decode cX10_could 62 = .ok (.getfield 7, 3) := by decide +kernel
theorem dX10_could_65 : decode cX10_could 65 = .ok (.sipush 400, 3) := by decide +kernel
theorem dX10_could_68 : decode cX10_could 68 = .ok (.iconst 2, 1) := by decide +kernel
theorem dX10_could_69 : decode cX10_could 69 = .ok (.iload 7, 2) := by decide +kernel
theorem dX10_could_71 : decode cX10_could 71 = .ok (.imul, 1) := by decide +kernel
theorem dX10_could_72 : decode cX10_could 72 = .ok (.iadd, 1) := by decide +kernel
theorem dX10_could_73 : decode cX10_could 73 = .ok (.iaload, 1) := by decide +kernel
theorem dX10_could_74 : decode cX10_could 74 = .ok (.istore 8, 2) := by decide +kernel
theorem dX10_could_76 : decode cX10_could 76 = .ok (.iload 8, 2) := by decide +kernel
theorem dX10_could_78 : decode cX10_could 78 = .ok (.iload_n 2, 1) := by decide +kernel
theorem dX10_could_79 : decode cX10_could 79 = .ok (.if_icmp .gt 31, 3) := by decide +kernel
theorem dX10_could_82 : decode cX10_could 82 = .ok (.iload 5, 2) := by decide +kernel
theorem dX10_could_84 : decode cX10_could 84 = .ok (.ifCond .lt 21, 3) := by decide +kernel
theorem dX10_could_87 : decode cX10_could 87 = .ok (.iload 8, 2) := by decide +kernel
theorem dX10_could_89 : decode cX10_could 89 = .ok (.aload_n 0, 1) := by decide +kernel
theorem dX10_could_90 : decode cX10_could 90 = .ok (.getfield 7, 3) := by decide +kernel
theorem dX10_could_93 : decode cX10_could 93 = .ok (.sipush 400, 3) := by decide +kernel
theorem dX10_could_96 : decode cX10_could 96 = .ok (.iconst 2, 1) := by decide +kernel
theorem dX10_could_97 : decode cX10_could 97 = .ok (.iload 5, 2) := by decide +kernel
theorem dX10_could_99 : decode cX10_could 99 = .ok (.imul, 1) := by decide +kernel
theorem dX10_could_100 : decode cX10_could 100 = .ok (.iadd, 1) := by decide +kernel
theorem dX10_could_101 : decode cX10_could 101 = .ok (.iaload, 1) := by decide +kernel
theorem dX10_could_102 : decode cX10_could 102 = .ok (.if_icmp .le 8, 3) := by decide +kernel
theorem dX10_could_105 : decode cX10_could 105 = .ok (.iload 7, 2) := by decide +kernel
theorem dX10_could_107 : decode cX10_could 107 = .ok (.goto 5, 3) := by decide +kernel
theorem dX10_could_110 : decode cX10_could 110 = .ok (.iload 5, 2) := by decide +kernel
theorem dX10_could_112 : decode cX10_could 112 = .ok (.istore 5, 2) := by decide +kernel
theorem dX10_could_114 : decode cX10_could 114 = .ok (.iload 8, 2) := by decide +kernel
theorem dX10_could_116 : decode cX10_could 116 = .ok (.iload 4, 2) := by decide +kernel
theorem dX10_could_118 : decode cX10_could 118 = .ok (.if_icmp .le 31, 3) := by decide +kernel
theorem dX10_could_121 : decode cX10_could 121 = .ok (.iload 6, 2) := by decide +kernel
theorem dX10_could_123 : decode cX10_could 123 = .ok (.ifCond .lt 21, 3) := by decide +kernel
theorem dX10_could_126 : decode cX10_could 126 = .ok (.iload 8, 2) := by decide +kernel
theorem dX10_could_128 : decode cX10_could 128 = .ok (.aload_n 0, 1) := by decide +kernel
theorem dX10_could_129 : decode cX10_could 129 = .ok (.getfield 7, 3) := by decide +kernel
theorem dX10_could_132 : decode cX10_could 132 = .ok (.sipush 400, 3) := by decide +kernel
theorem dX10_could_135 : decode cX10_could 135 = .ok (.iconst 2, 1) := by decide +kernel
theorem dX10_could_136 : decode cX10_could 136 = .ok (.iload 6, 2) := by decide +kernel
theorem dX10_could_138 : decode cX10_could 138 = .ok (.imul, 1) := by decide +kernel
theorem dX10_could_139 : decode cX10_could 139 = .ok (.iadd, 1) := by decide +kernel
theorem dX10_could_140 : decode cX10_could 140 = .ok (.iaload, 1) := by decide +kernel
theorem dX10_could_141 : decode cX10_could 141 = .ok (.if_icmp .ge 8, 3) := by decide +kernel
theorem dX10_could_144 : decode cX10_could 144 = .ok (.iload 7, 2) := by decide +kernel
theorem dX10_could_146 : decode cX10_could 146 = .ok (.goto 5, 3) := by decide +kernel
theorem dX10_could_149 : decode cX10_could 149 = .ok (.iload 6, 2) := by decide +kernel
theorem dX10_could_151 : decode cX10_could 151 = .ok (.istore 6, 2) := by decide +kernel
theorem dX10_could_153 : decode cX10_could 153 = .ok (.iload 8, 2) := by decide +kernel
theorem dX10_could_155 : decode cX10_could 155 = .ok (.iload_n 2, 1) := by decide +kernel
theorem dX10_could_156 : decode cX10_could 156 = .ok (.if_icmp .lt 31, 3) := by decide +kernel
theorem dX10_could_159 : decode cX10_could 159 = .ok (.iload 8, 2) := by decide +kernel
theorem dX10_could_161 : decode cX10_could 161 = .ok (.iload 4, 2) := by decide +kernel
theorem dX10_could_163 : decode cX10_could 163 = .ok (.if_icmp .gt 24, 3) := by decide +kernel
theorem dX10_could_166 : decode cX10_could 166 = .ok (.aload_n 0, 1) := by decide +kernel
theorem dX10_could_167 : decode cX10_could 167 = .ok (.getfield 7, 3) := by decide +kernel
theorem dX10_could_170 : decode cX10_could 170 = .ok (.sipush 400, 3) := by decide +kernel
theorem dX10_could_173 : decode cX10_could 173 = .ok (.iconst 2, 1) := by decide +kernel
theorem dX10_could_174 : decode cX10_could 174 = .ok (.iload 7, 2) := by decide +kernel
theorem dX10_could_176 : decode cX10_could 176 = .ok (.imul, 1) := by decide +kernel
theorem dX10_could_177 : decode cX10_could 177 = .ok (.iadd, 1) := by decide +kernel
theorem dX10_could_178 : decode cX10_could 178 = .ok (.iconst 1, 1) := by decide +kernel
theorem dX10_could_179 : decode cX10_could 179 = .ok (.iadd, 1) := by decide +kernel
theorem dX10_could_180 : decode cX10_could 180 = .ok (.iaload, 1) := by decide +kernel
theorem dX10_could_181 : decode cX10_could 181 = .ok (.iload_n 1, 1) := by decide +kernel
theorem dX10_could_182 : decode cX10_could 182 = .ok (.if_icmp .eq 5, 3) := by decide +kernel
theorem dX10_could_185 : decode cX10_could 185 = .ok (.iconst 0, 1) := by decide +kernel
theorem dX10_could_186 : decode cX10_could 186 = .ok (.ireturn, 1) := by decide +kernel
theorem dX10_could_187 : decode cX10_could 187 = .ok (.iinc 7 1, 3) := by decide +kernel
theorem dX10_could_190 : decode cX10_could 190 = .ok (.goto (-140), 3) := by decide +kernel
theorem dX10_could_193 : decode cX10_could 193 = .ok (.aload_n 0, 1) := by decide +kernel
theorem dX10_could_194 : decode cX10_could 194 = .ok (.iload 5, 2) := by decide +kernel
theorem dX10_could_196 : decode cX10_could 196 = .ok (.iload_n 1, 1) := by decide +kernel
theorem dX10_could_197 : decode cX10_could 197 = .ok (.iload_n 2, 1) := by decide +kernel
theorem dX10_could_198 : decode cX10_could 198 = .ok (.invokevirtual 334, 3) := by decide +kernel
theorem dX10_could_201 : decode cX10_could 201 = .ok (.ifCond .eq 19, 3) := by decide +kernel
theorem dX10_could_204 : decode cX10_could 204 = .ok (.aload_n 0, 1) := by decide +kernel
theorem dX10_could_205 : decode cX10_could 205 = .ok (.iload 6, 2) := by decide +kernel
theorem dX10_could_207 : decode cX10_could 207 = .ok (.iload_n 1, 1) := by decide +kernel
theorem dX10_could_208 : decode cX10_could 208 = .ok (.iload 4, 2) := by decide +kernel
theorem dX10_could_210 : decode cX10_could 210 = .ok (.invokevirtual 334, 3) := by decide +kernel
theorem dX10_could_213 : decode cX10_could 213 = .ok (.ifCond .eq 7, 3) := by decide +kernel
theorem dX10_could_216 : decode cX10_could 216 = .ok (.iconst 1, 1) := by decide +kernel
theorem dX10_could_217 : decode cX10_could 217 = .ok (.goto 4, 3) := by decide +kernel
theorem dX10_could_220 : decode cX10_could 220 = .ok (.iconst 0, 1) := by decide +kernel
theorem dX10_could_221 : decode cX10_could 221 = .ok (.ireturn, 1) := by decide +kernel
theorem dX10_isNear_0 : decode cX10_isNear 0 = .ok (.iload_n 1, 1) := by decide +kernel
theorem dX10_isNear_1 : decode cX10_isNear 1 = .ok (.ifCond .ge 5, 3) := by decide +kernel
theorem dX10_isNear_4 : decode cX10_isNear 4 = .ok (.iconst 1, 1) := by decide +kernel
theorem dX10_isNear_5 : decode cX10_isNear 5 = .ok (.ireturn, 1) := by decide +kernel
theorem dX10_isNear_6 : decode cX10_isNear 6 = .ok (.aload_n 0, 1) := by decide +kernel
theorem dX10_isNear_7 : decode cX10_isNear 7 = .ok (.iload_n 2, 1) := by decide +kernel
theorem dX10_isNear_8 : decode cX10_isNear 8 = .ok (.aload_n 0, 1) := by decide +kernel
theorem dX10_isNear_9 : decode cX10_isNear 9 = .ok (.getfield 7, 3) := by decide +kernel
theorem dX10_isNear_12 : decode cX10_isNear 12 = .ok (.sipush 400, 3) := by decide +kernel
theorem dX10_isNear_15 : decode cX10_isNear 15 = .ok (.iconst 2, 1) := by decide +kernel
theorem dX10_isNear_16 : decode cX10_isNear 16 = .ok (.iload_n 1, 1) := by decide +kernel
theorem dX10_isNear_17 : decode cX10_isNear 17 = .ok (.imul, 1) := by decide +kernel
theorem dX10_isNear_18 : decode cX10_isNear 18 = .ok (.iadd, 1) := by decide +kernel
theorem dX10_isNear_19 : decode cX10_isNear 19 = .ok (.iconst 1, 1) := by decide +kernel
theorem dX10_isNear_20 : decode cX10_isNear 20 = .ok (.iadd, 1) := by decide +kernel
theorem dX10_isNear_21 : decode cX10_isNear 21 = .ok (.iaload, 1) := by decide +kernel
theorem dX10_isNear_22 : decode cX10_isNear 22 = .ok (.invokevirtual 326, 3) := by decide +kernel
theorem dX10_isNear_25 : decode cX10_isNear 25 = .ok (.istore 4, 2) := by decide +kernel
theorem dX10_isNear_27 : decode cX10_isNear 27 = .ok (.iload_n 3, 1) := by decide +kernel
theorem dX10_isNear_28 : decode cX10_isNear 28 = .ok (.aload_n 0, 1) := by decide +kernel
theorem dX10_isNear_29 : decode cX10_isNear 29 = .ok (.getfield 7, 3) := by decide +kernel
theorem dX10_isNear_32 : decode cX10_isNear 32 = .ok (.sipush 400, 3) := by decide +kernel
theorem dX10_isNear_35 : decode cX10_isNear 35 = .ok (.iconst 2, 1) := by decide +kernel
theorem dX10_isNear_36 : decode cX10_isNear 36 = .ok (.iload_n 1, 1) := by decide +kernel
theorem dX10_isNear_37 : decode cX10_isNear 37 = .ok (.imul, 1) := by decide +kernel
theorem dX10_isNear_38 : decode cX10_isNear 38 = .ok (.iadd, 1) := by decide +kernel
theorem dX10_isNear_39 : decode cX10_isNear 39 = .ok (.iaload, 1) := by decide +kernel
theorem dX10_isNear_40 : decode cX10_isNear 40 = .ok (.isub, 1) := by decide +kernel
theorem dX10_isNear_41 : decode cX10_isNear 41 = .ok (.istore 5, 2) := by decide +kernel
theorem dX10_isNear_43 : decode cX10_isNear 43 = .ok (.iload 4, 2) := by decide +kernel
theorem dX10_isNear_45 : decode cX10_isNear 45 = .ok (.ifCond .lt 25, 3) := by decide +kernel
theorem dX10_isNear_48 : decode cX10_isNear 48 = .ok (.iload 5, 2) := by decide +kernel
theorem dX10_isNear_50 : decode cX10_isNear 50 = .ok (.ifCond .ge 9, 3) := by decide +kernel
theorem dX10_isNear_53 : decode cX10_isNear 53 = .ok (.iload 5, 2) := by decide +kernel
theorem dX10_isNear_55 : decode cX10_isNear 55 = .ok (.ineg, 1) := by decide +kernel
theorem dX10_isNear_56 : decode cX10_isNear 56 = .ok (.goto 5, 3) := by decide +kernel
theorem dX10_isNear_59 : decode cX10_isNear 59 = .ok (.iload 5, 2) := by decide +kernel
theorem dX10_isNear_61 : decode cX10_isNear 61 = .ok (.iload 4, 2) := by decide +kernel
theorem dX10_isNear_63 : decode cX10_isNear 63 = .ok (.if_icmp .lt 7, 3) := by decide +kernel
theorem dX10_isNear_66 : decode cX10_isNear 66 = .ok (.iconst 1, 1) := by decide +kernel
theorem dX10_isNear_67 : decode cX10_isNear 67 = .ok (.goto 4, 3) := by decide +kernel
theorem dX10_isNear_70 : decode cX10_isNear 70 = .ok (.iconst 0, 1) := by decide +kernel
theorem dX10_isNear_71 : decode cX10_isNear 71 = .ok (.ireturn, 1) := by decide +kernel
theorem dX10_ones_0 : decode cX10_ones 0 = .ok (.iconst 0, 1) := by decide +kernel
theorem dX10_ones_1 : decode cX10_ones 1 = .ok (.istore_n 1, 1) := by decide +kernel
theorem dX10_ones_2 : decode cX10_ones 2 = .ok (.iconst 0, 1) := by decide +kernel
theorem dX10_ones_3 : decode cX10_ones 3 = .ok (.istore_n 2, 1) := by decide +kernel
theorem dX10_ones_4 : decode cX10_ones 4 = .ok (.iload_n 2, 1) := by decide +kernel
theorem dX10_ones_5 : decode cX10_ones 5 = .ok (.bipush 16, 2) := by decide +kernel
theorem dX10_ones_7 : decode cX10_ones 7 = .ok (.if_icmp .ge 17, 3) := by decide +kernel
theorem dX10_ones_10 : decode cX10_ones 10 = .ok (.iload_n 1, 1) := by decide +kernel
theorem dX10_ones_11 : decode cX10_ones 11 = .ok (.iload_n 0, 1) := by decide +kernel
theorem dX10_ones_12 : decode cX10_ones 12 = .ok (.iload_n 2, 1) := by decide +kernel
theorem dX10_ones_13 : decode cX10_ones 13 = .ok (.ishr, 1) := by decide +kernel
theorem dX10_ones_14 : decode cX10_ones 14 = .ok (.iconst 1, 1) := by decide +kernel
theorem dX10_ones_15 : decode cX10_ones 15 = .ok (.iand, 1) := by decide +kernel
theorem dX10_ones_16 : decode cX10_ones 16 = .ok (.iadd, 1) := by decide +kernel
theorem dX10_ones_17 : decode cX10_ones 17 = .ok (.istore_n 1, 1) := by decide +kernel
theorem dX10_ones_18 : decode cX10_ones 18 = .ok (.iinc 2 1, 3) := by decide +kernel
theorem dX10_ones_21 : decode cX10_ones 21 = .ok (.goto (-17), 3) := by decide +kernel
theorem dX10_ones_24 : decode cX10_ones 24 = .ok (.iload_n 1, 1) := by decide +kernel
theorem dX10_ones_25 : decode cX10_ones 25 = .ok (.ireturn, 1) := by decide +kernel
theorem dX10_leaner_0 : decode cX10_leaner 0 = .ok (.iload_n 1, 1) := by decide +kernel
theorem dX10_leaner_1 : decode cX10_leaner 1 = .ok (.i2l, 1) := by decide +kernel
theorem dX10_leaner_2 : decode cX10_leaner 2 = .ok (.lconst 0, 1) := by decide +kernel
theorem dX10_leaner_3 : decode cX10_leaner 3 = .ok (.iconst 1, 1) := by decide +kernel
theorem dX10_leaner_4 : decode cX10_leaner 4 = .ok (.aload_n 0, 1) := by decide +kernel
theorem dX10_leaner_5 : decode cX10_leaner 5 = .ok (.getfield 7, 3) := by decide +kernel
theorem dX10_leaner_8 : decode cX10_leaner 8 = .ok (.iconst 0, 1) := by decide +kernel
theorem dX10_leaner_9 : decode cX10_leaner 9 = .ok (.iaload, 1) := by decide +kernel
theorem dX10_leaner_10 : decode cX10_leaner 10 = .ok (.ishl, 1) := by decide +kernel
theorem dX10_leaner_11 : decode cX10_leaner 11 = .ok (.iconst 1, 1) := by decide +kernel
theorem dX10_leaner_12 : decode cX10_leaner 12 = .ok (.isub, 1) := by decide +kernel
theorem dX10_leaner_13 : decode cX10_leaner 13 = .ok (.i2l, 1) := by decide +kernel
theorem dX10_leaner_14 : decode cX10_leaner 14 = .ok (.invokestatic 74, 3) := by decide +kernel
theorem dX10_leaner_17 : decode cX10_leaner 17 = .ok (.ifCond .eq 35, 3) := by decide +kernel
theorem dX10_leaner_20 : decode cX10_leaner 20 = .ok (.iload_n 2, 1) := by decide +kernel
theorem dX10_leaner_21 : decode cX10_leaner 21 = .ok (.i2l, 1) := by decide +kernel
theorem dX10_leaner_22 : decode cX10_leaner 22 = .ok (.lconst 0, 1) := by decide +kernel
theorem dX10_leaner_23 : decode cX10_leaner 23 = .ok (.iconst 1, 1) := by decide +kernel
theorem dX10_leaner_24 : decode cX10_leaner 24 = .ok (.aload_n 0, 1) := by decide +kernel
theorem dX10_leaner_25 : decode cX10_leaner 25 = .ok (.getfield 7, 3) := by decide +kernel
theorem dX10_leaner_28 : decode cX10_leaner 28 = .ok (.iconst 5, 1) := by decide +kernel
theorem dX10_leaner_29 : decode cX10_leaner 29 = .ok (.iaload, 1) := by decide +kernel
theorem dX10_leaner_30 : decode cX10_leaner 30 = .ok (.ishl, 1) := by decide +kernel
theorem dX10_leaner_31 : decode cX10_leaner 31 = .ok (.iconst 1, 1) := by decide +kernel
theorem dX10_leaner_32 : decode cX10_leaner 32 = .ok (.isub, 1) := by decide +kernel
theorem dX10_leaner_33 : decode cX10_leaner 33 = .ok (.i2l, 1) := by decide +kernel
theorem dX10_leaner_34 : decode cX10_leaner 34 = .ok (.invokestatic 74, 3) := by decide +kernel
theorem dX10_leaner_37 : decode cX10_leaner 37 = .ok (.ifCond .eq 15, 3) := by decide +kernel
theorem dX10_leaner_40 : decode cX10_leaner 40 = .ok (.iload_n 3, 1) := by decide +kernel
theorem dX10_leaner_41 : decode cX10_leaner 41 = .ok (.i2l, 1) := by decide +kernel
theorem dX10_leaner_42 : decode cX10_leaner 42 = .ok (.lconst 0, 1) := by decide +kernel
theorem dX10_leaner_43 : decode cX10_leaner 43 = .ok (.ldc2_w 338, 3) := by decide +kernel
theorem dX10_leaner_46 : decode cX10_leaner 46 = .ok (.invokestatic 74, 3) := by decide +kernel
theorem dX10_leaner_49 : decode cX10_leaner 49 = .ok (.ifCond .ne 6, 3) := by decide +kernel
theorem dX10_leaner_52 : decode cX10_leaner 52 = .ok (.ldc 84, 2) := by decide +kernel
theorem dX10_leaner_54 : decode cX10_leaner 54 = .ok (.ireturn, 1) := by decide +kernel
theorem dX10_leaner_55 : decode cX10_leaner 55 = .ok (.aload_n 0, 1) := by decide +kernel
theorem dX10_leaner_56 : decode cX10_leaner 56 = .ok (.getfield 7, 3) := by decide +kernel
theorem dX10_leaner_59 : decode cX10_leaner 59 = .ok (.iconst 5, 1) := by decide +kernel
theorem dX10_leaner_60 : decode cX10_leaner 60 = .ok (.iaload, 1) := by decide +kernel
theorem dX10_leaner_61 : decode cX10_leaner 61 = .ok (.bipush 16, 2) := by decide +kernel
theorem dX10_leaner_63 : decode cX10_leaner 63 = .ok (.if_icmp .ne 6, 3) := by decide +kernel
theorem dX10_leaner_66 : decode cX10_leaner 66 = .ok (.ldc 86, 2) := by decide +kernel
theorem dX10_leaner_68 : decode cX10_leaner 68 = .ok (.ireturn, 1) := by decide +kernel
theorem dX10_leaner_69 : decode cX10_leaner 69 = .ok (.sipush 440, 3) := by decide +kernel
theorem dX10_leaner_72 : decode cX10_leaner 72 = .ok (.iconst 3, 1) := by decide +kernel
theorem dX10_leaner_73 : decode cX10_leaner 73 = .ok (.aload_n 0, 1) := by decide +kernel
theorem dX10_leaner_74 : decode cX10_leaner 74 = .ok (.getfield 7, 3) := by decide +kernel
theorem dX10_leaner_77 : decode cX10_leaner 77 = .ok (.iconst 5, 1) := by decide +kernel
theorem dX10_leaner_78 : decode cX10_leaner 78 = .ok (.iaload, 1) := by decide +kernel
theorem dX10_leaner_79 : decode cX10_leaner 79 = .ok (.imul, 1) := by decide +kernel
theorem dX10_leaner_80 : decode cX10_leaner 80 = .ok (.iadd, 1) := by decide +kernel
theorem dX10_leaner_81 : decode cX10_leaner 81 = .ok (.istore 4, 2) := by decide +kernel
theorem dX10_leaner_83 : decode cX10_leaner 83 = .ok (.aload_n 0, 1) := by decide +kernel
theorem dX10_leaner_84 : decode cX10_leaner 84 = .ok (.getfield 7, 3) := by decide +kernel
theorem dX10_leaner_87 : decode cX10_leaner 87 = .ok (.iload 4, 2) := by decide +kernel
theorem dX10_leaner_89 : decode cX10_leaner 89 = .ok (.iload_n 1, 1) := by decide +kernel
theorem dX10_leaner_90 : decode cX10_leaner 90 = .ok (.iastore, 1) := by decide +kernel
theorem dX10_leaner_91 : decode cX10_leaner 91 = .ok (.aload_n 0, 1) := by decide +kernel
theorem dX10_leaner_92 : decode cX10_leaner 92 = .ok (.getfield 7, 3) := by decide +kernel
theorem dX10_leaner_95 : decode cX10_leaner 95 = .ok (.iload 4, 2) := by decide +kernel
theorem dX10_leaner_97 : decode cX10_leaner 97 = .ok (.iconst 1, 1) := by decide +kernel
theorem dX10_leaner_98 : decode cX10_leaner 98 = .ok (.iadd, 1) := by decide +kernel
theorem dX10_leaner_99 : decode cX10_leaner 99 = .ok (.iload_n 2, 1) := by decide +kernel
theorem dX10_leaner_100 : decode cX10_leaner 100 = .ok (.iastore, 1) := by decide +kernel
theorem dX10_leaner_101 : decode cX10_leaner 101 = .ok (.aload_n 0, 1) := by decide +kernel
theorem dX10_leaner_102 : decode cX10_leaner 102 = .ok (.getfield 7, 3) := by decide +kernel
theorem dX10_leaner_105 : decode cX10_leaner 105 = .ok (.iload 4, 2) := by decide +kernel
theorem dX10_leaner_107 : decode cX10_leaner 107 = .ok (.iconst 2, 1) := by decide +kernel
theorem dX10_leaner_108 : decode cX10_leaner 108 = .ok (.iadd, 1) := by decide +kernel
theorem dX10_leaner_109 : decode cX10_leaner 109 = .ok (.iload_n 3, 1) := by decide +kernel
theorem dX10_leaner_110 : decode cX10_leaner 110 = .ok (.iastore, 1) := by decide +kernel
theorem dX10_leaner_111 : decode cX10_leaner 111 = .ok (.aload_n 0, 1) := by decide +kernel
theorem dX10_leaner_112 : decode cX10_leaner 112 = .ok (.getfield 7, 3) := by decide +kernel
theorem dX10_leaner_115 : decode cX10_leaner 115 = .ok (.iconst 5, 1) := by decide +kernel
theorem dX10_leaner_116 : decode cX10_leaner 116 = .ok (.dup2, 1) := by decide +kernel
theorem dX10_leaner_117 : decode cX10_leaner 117 = .ok (.iaload, 1) := by decide +kernel
theorem dX10_leaner_118 : decode cX10_leaner 118 = .ok (.iconst 1, 1) := by decide +kernel
theorem dX10_leaner_119 : decode cX10_leaner 119 = .ok (.iadd, 1) := by decide +kernel
theorem dX10_leaner_120 : decode cX10_leaner 120 = .ok (.iastore, 1) := by decide +kernel
theorem dX10_leaner_121 : decode cX10_leaner 121 = .ok (.aload_n 0, 1) := by decide +kernel
theorem dX10_leaner_122 : decode cX10_leaner 122 = .ok (.getfield 7, 3) := by decide +kernel
theorem dX10_leaner_125 : decode cX10_leaner 125 = .ok (.iconst 5, 1) := by decide +kernel
theorem dX10_leaner_126 : decode cX10_leaner 126 = .ok (.iaload, 1) := by decide +kernel
theorem dX10_leaner_127 : decode cX10_leaner 127 = .ok (.iconst 1, 1) := by decide +kernel
theorem dX10_leaner_128 : decode cX10_leaner 128 = .ok (.isub, 1) := by decide +kernel
theorem dX10_leaner_129 : decode cX10_leaner 129 = .ok (.ireturn, 1) := by decide +kernel
theorem dX10_fallen_0 : decode cX10_fallen 0 = .ok (.iconst 0, 1) := by decide +kernel
theorem dX10_fallen_1 : decode cX10_fallen 1 = .ok (.istore_n 2, 1) := by decide +kernel
theorem dX10_fallen_2 : decode cX10_fallen 2 = .ok (.iconst 0, 1) := by decide +kernel
theorem dX10_fallen_3 : decode cX10_fallen 3 = .ok (.istore_n 3, 1) := by decide +kernel
theorem dX10_fallen_4 : decode cX10_fallen 4 = .ok (.iload_n 3, 1) := by decide +kernel
theorem dX10_fallen_5 : decode cX10_fallen 5 = .ok (.aload_n 0, 1) := by decide +kernel
theorem dX10_fallen_6 : decode cX10_fallen 6 = .ok (.getfield 7, 3) := by decide +kernel
theorem dX10_fallen_9 : decode cX10_fallen 9 = .ok (.iconst 5, 1) := by decide +kernel
theorem dX10_fallen_10 : decode cX10_fallen 10 = .ok (.iaload, 1) := by decide +kernel
theorem dX10_fallen_11 : decode cX10_fallen 11 = .ok (.if_icmp .ge 75, 3) := by decide +kernel
theorem dX10_fallen_14 : decode cX10_fallen 14 = .ok (.sipush 440, 3) := by decide +kernel
theorem dX10_fallen_17 : decode cX10_fallen 17 = .ok (.iconst 3, 1) := by decide +kernel
theorem dX10_fallen_18 : decode cX10_fallen 18 = .ok (.iload_n 3, 1) := by decide +kernel
theorem dX10_fallen_19 : decode cX10_fallen 19 = .ok (.imul, 1) := by decide +kernel
theorem dX10_fallen_20 : decode cX10_fallen 20 = .ok (.iadd, 1) := by decide +kernel
theorem dX10_fallen_21 : decode cX10_fallen 21 = .ok (.istore 4, 2) := by decide +kernel
theorem dX10_fallen_23 : decode cX10_fallen 23 = .ok (.aload_n 0, 1) := by decide +kernel
theorem dX10_fallen_24 : decode cX10_fallen 24 = .ok (.getfield 7, 3) := by decide +kernel
theorem dX10_fallen_27 : decode cX10_fallen 27 = .ok (.iload 4, 2) := by decide +kernel
theorem dX10_fallen_29 : decode cX10_fallen 29 = .ok (.iaload, 1) := by decide +kernel
theorem dX10_fallen_30 : decode cX10_fallen 30 = .ok (.iload_n 1, 1) := by decide +kernel
theorem dX10_fallen_31 : decode cX10_fallen 31 = .ok (.iconst (-1), 1) := by decide +kernel
theorem dX10_fallen_32 : decode cX10_fallen 32 = .ok (.ixor, 1) := by decide +kernel
theorem dX10_fallen_33 : decode cX10_fallen 33 = .ok (.iand, 1) := by decide +kernel
theorem dX10_fallen_34 : decode cX10_fallen 34 = .ok (.invokestatic 340, 3) := by decide +kernel
theorem dX10_fallen_37 : decode cX10_fallen 37 = .ok (.aload_n 0, 1) := by decide +kernel
theorem dX10_fallen_38 : decode cX10_fallen 38 = .ok (.getfield 7, 3) := by decide +kernel
theorem dX10_fallen_41 : decode cX10_fallen 41 = .ok (.iload 4, 2) := by decide +kernel
theorem dX10_fallen_43 : decode cX10_fallen 43 = .ok (.iconst 1, 1) := by decide +kernel
theorem dX10_fallen_44 : decode cX10_fallen 44 = .ok (.iadd, 1) := by decide +kernel
theorem dX10_fallen_45 : decode cX10_fallen 45 = .ok (.iaload, 1) := by decide +kernel
theorem dX10_fallen_46 : decode cX10_fallen 46 = .ok (.iload_n 2, 1) := by decide +kernel
theorem dX10_fallen_47 : decode cX10_fallen 47 = .ok (.iconst (-1), 1) := by decide +kernel
theorem dX10_fallen_48 : decode cX10_fallen 48 = .ok (.ixor, 1) := by decide +kernel
theorem dX10_fallen_49 : decode cX10_fallen 49 = .ok (.iand, 1) := by decide +kernel
theorem dX10_fallen_50 : decode cX10_fallen 50 = .ok (.invokestatic 340, 3) := by decide +kernel
theorem dX10_fallen_53 : decode cX10_fallen 53 = .ok (.iadd, 1) := by decide +kernel
theorem dX10_fallen_54 : decode cX10_fallen 54 = .ok (.istore 5, 2) := by decide +kernel
theorem dX10_fallen_56 : decode cX10_fallen 56 = .ok (.iload_n 2, 1) := by decide +kernel
theorem dX10_fallen_57 : decode cX10_fallen 57 = .ok (.iload 5, 2) := by decide +kernel
theorem dX10_fallen_59 : decode cX10_fallen 59 = .ok (.aload_n 0, 1) := by decide +kernel
theorem dX10_fallen_60 : decode cX10_fallen 60 = .ok (.getfield 7, 3) := by decide +kernel
theorem dX10_fallen_63 : decode cX10_fallen 63 = .ok (.iload 4, 2) := by decide +kernel
theorem dX10_fallen_65 : decode cX10_fallen 65 = .ok (.iconst 2, 1) := by decide +kernel
theorem dX10_fallen_66 : decode cX10_fallen 66 = .ok (.iadd, 1) := by decide +kernel
theorem dX10_fallen_67 : decode cX10_fallen 67 = .ok (.iaload, 1) := by decide +kernel
theorem dX10_fallen_68 : decode cX10_fallen 68 = .ok (.if_icmp .ge 9, 3) := by decide +kernel
theorem dX10_fallen_71 : decode cX10_fallen 71 = .ok (.iconst 1, 1) := by decide +kernel
theorem dX10_fallen_72 : decode cX10_fallen 72 = .ok (.iload_n 3, 1) := by decide +kernel
theorem dX10_fallen_73 : decode cX10_fallen 73 = .ok (.ishl, 1) := by decide +kernel
theorem dX10_fallen_74 : decode cX10_fallen 74 = .ok (.goto 4, 3) := by decide +kernel
theorem dX10_fallen_77 : decode cX10_fallen 77 = .ok (.iconst 0, 1) := by decide +kernel
theorem dX10_fallen_78 : decode cX10_fallen 78 = .ok (.ior, 1) := by decide +kernel
theorem dX10_fallen_79 : decode cX10_fallen 79 = .ok (.istore_n 2, 1) := by decide +kernel
theorem dX10_fallen_80 : decode cX10_fallen 80 = .ok (.iinc 3 1, 3) := by decide +kernel
theorem dX10_fallen_83 : decode cX10_fallen 83 = .ok (.goto (-79), 3) := by decide +kernel
theorem dX10_fallen_86 : decode cX10_fallen 86 = .ok (.iload_n 2, 1) := by decide +kernel
theorem dX10_fallen_87 : decode cX10_fallen 87 = .ok (.ireturn, 1) := by decide +kernel
theorem dX10_falls_0 : decode cX10_falls 0 = .ok (.iload_n 1, 1) := by decide +kernel
theorem dX10_falls_1 : decode cX10_falls 1 = .ok (.i2l, 1) := by decide +kernel
theorem dX10_falls_2 : decode cX10_falls 2 = .ok (.lconst 0, 1) := by decide +kernel
theorem dX10_falls_3 : decode cX10_falls 3 = .ok (.ldc2_w 343, 3) := by decide +kernel
theorem dX10_falls_6 : decode cX10_falls 6 = .ok (.invokestatic 74, 3) := by decide +kernel
theorem dX10_falls_9 : decode cX10_falls 9 = .ok (.ifCond .eq 11, 3) := by decide +kernel
theorem dX10_falls_12 : decode cX10_falls 12 = .ok (.aload_n 0, 1) := by decide +kernel
theorem dX10_falls_13 : decode cX10_falls 13 = .ok (.iload_n 1, 1) := by decide +kernel
theorem dX10_falls_14 : decode cX10_falls 14 = .ok (.invokevirtual 345, 3) := by decide +kernel
theorem dX10_falls_17 : decode cX10_falls 17 = .ok (.goto 5, 3) := by decide +kernel
theorem dX10_falls_20 : decode cX10_falls 20 = .ok (.ldc 84, 2) := by decide +kernel
theorem dX10_falls_22 : decode cX10_falls 22 = .ok (.ireturn, 1) := by decide +kernel
theorem dX10_left_0 : decode cX10_left 0 = .ok (.iload_n 1, 1) := by decide +kernel
theorem dX10_left_1 : decode cX10_left 1 = .ok (.i2l, 1) := by decide +kernel
theorem dX10_left_2 : decode cX10_left 2 = .ok (.lconst 0, 1) := by decide +kernel
theorem dX10_left_3 : decode cX10_left 3 = .ok (.ldc2_w 343, 3) := by decide +kernel
theorem dX10_left_6 : decode cX10_left 6 = .ok (.invokestatic 74, 3) := by decide +kernel
theorem dX10_left_9 : decode cX10_left 9 = .ok (.ifCond .eq 24, 3) := by decide +kernel
theorem dX10_left_12 : decode cX10_left 12 = .ok (.iconst 1, 1) := by decide +kernel
theorem dX10_left_13 : decode cX10_left 13 = .ok (.aload_n 0, 1) := by decide +kernel
theorem dX10_left_14 : decode cX10_left 14 = .ok (.getfield 7, 3) := by decide +kernel
theorem dX10_left_17 : decode cX10_left 17 = .ok (.iconst 5, 1) := by decide +kernel
theorem dX10_left_18 : decode cX10_left 18 = .ok (.iaload, 1) := by decide +kernel
theorem dX10_left_19 : decode cX10_left 19 = .ok (.ishl, 1) := by decide +kernel
theorem dX10_left_20 : decode cX10_left 20 = .ok (.iconst 1, 1) := by decide +kernel
theorem dX10_left_21 : decode cX10_left 21 = .ok (.isub, 1) := by decide +kernel
theorem dX10_left_22 : decode cX10_left 22 = .ok (.aload_n 0, 1) := by decide +kernel
theorem dX10_left_23 : decode cX10_left 23 = .ok (.iload_n 1, 1) := by decide +kernel
theorem dX10_left_24 : decode cX10_left 24 = .ok (.invokevirtual 345, 3) := by decide +kernel
theorem dX10_left_27 : decode cX10_left 27 = .ok (.iconst (-1), 1) := by decide +kernel
theorem dX10_left_28 : decode cX10_left 28 = .ok (.ixor, 1) := by decide +kernel
theorem dX10_left_29 : decode cX10_left 29 = .ok (.iand, 1) := by decide +kernel
theorem dX10_left_30 : decode cX10_left 30 = .ok (.goto 5, 3) := by decide +kernel
theorem dX10_left_33 : decode cX10_left 33 = .ok (.ldc 84, 2) := by decide +kernel
theorem dX10_left_35 : decode cX10_left 35 = .ok (.ireturn, 1) := by decide +kernel
theorem dX10_pillar_0 : decode cX10_pillar 0 = .ok (.iconst (-1), 1) := by decide +kernel
theorem dX10_pillar_1 : decode cX10_pillar 1 = .ok (.istore_n 1, 1) := by decide +kernel
theorem dX10_pillar_2 : decode cX10_pillar 2 = .ok (.iconst 0, 1) := by decide +kernel
theorem dX10_pillar_3 : decode cX10_pillar 3 = .ok (.istore_n 2, 1) := by decide +kernel
theorem dX10_pillar_4 : decode cX10_pillar 4 = .ok (.iload_n 2, 1) := by decide +kernel
theorem dX10_pillar_5 : decode cX10_pillar 5 = .ok (.aload_n 0, 1) := by decide +kernel
theorem dX10_pillar_6 : decode cX10_pillar 6 = .ok (.getfield 7, 3) := by decide +kernel
theorem dX10_pillar_9 : decode cX10_pillar 9 = .ok (.iconst 0, 1) := by decide +kernel
theorem dX10_pillar_10 : decode cX10_pillar 10 = .ok (.iaload, 1) := by decide +kernel
theorem dX10_pillar_11 : decode cX10_pillar 11 = .ok (.if_icmp .ge 42, 3) := by decide +kernel
theorem dX10_pillar_14 : decode cX10_pillar 14 = .ok (.iload_n 1, 1) := by decide +kernel
theorem dX10_pillar_15 : decode cX10_pillar 15 = .ok (.ifCond .lt 26, 3) := by decide +kernel
theorem dX10_pillar_18 : decode cX10_pillar 18 = .ok (.aload_n 0, 1) := by decide +kernel
theorem dX10_pillar_19 : decode cX10_pillar 19 = .ok (.iconst 1, 1) := by decide +kernel
theorem dX10_pillar_20 : decode cX10_pillar 20 = .ok (.iload_n 2, 1) := by decide +kernel
theorem dX10_pillar_21 : decode cX10_pillar 21 = .ok (.ishl, 1) := by decide +kernel
theorem dX10_pillar_22 : decode cX10_pillar 22 = .ok (.invokevirtual 345, 3) := by decide +kernel
theorem dX10_pillar_25 : decode cX10_pillar 25 = .ok (.invokestatic 340, 3) := by decide +kernel
theorem dX10_pillar_28 : decode cX10_pillar 28 = .ok (.aload_n 0, 1) := by decide +kernel
theorem dX10_pillar_29 : decode cX10_pillar 29 = .ok (.iconst 1, 1) := by decide +kernel
theorem dX10_pillar_30 : decode cX10_pillar 30 = .ok (.iload_n 1, 1) := by decide +kernel
theorem dX10_pillar_31 : decode cX10_pillar 31 = .ok (.ishl, 1) := by decide +kernel
theorem dX10_pillar_32 : decode cX10_pillar 32 = .ok (.invokevirtual 345, 3) := by decide +kernel
theorem dX10_pillar_35 : decode cX10_pillar 35 = .ok (.invokestatic 340, 3) := by decide +kernel
theorem dX10_pillar_38 : decode cX10_pillar 38 = .ok (.if_icmp .le 7, 3) := by decide +kernel
theorem dX10_pillar_41 : decode cX10_pillar 41 = .ok (.iload_n 2, 1) := by decide +kernel
theorem dX10_pillar_42 : decode cX10_pillar 42 = .ok (.goto 4, 3) := by decide +kernel
theorem dX10_pillar_45 : decode cX10_pillar 45 = .ok (.iload_n 1, 1) := by decide +kernel
theorem dX10_pillar_46 : decode cX10_pillar 46 = .ok (.istore_n 1, 1) := by decide +kernel
theorem dX10_pillar_47 : decode cX10_pillar 47 = .ok (.iinc 2 1, 3) := by decide +kernel
theorem dX10_pillar_50 : decode cX10_pillar 50 = .ok (.goto (-46), 3) := by decide +kernel
theorem dX10_pillar_53 : decode cX10_pillar 53 = .ok (.iload_n 1, 1) := by decide +kernel
theorem dX10_pillar_54 : decode cX10_pillar 54 = .ok (.invokestatic 141, 3) := by decide +kernel
theorem dX10_pillar_57 : decode cX10_pillar 57 = .ok (.ireturn, 1) := by decide +kernel
theorem dX10_source_0 : decode cX10_source 0 = .ok (.iload_n 1, 1) := by decide +kernel
theorem dX10_source_1 : decode cX10_source 1 = .ok (.i2l, 1) := by decide +kernel
theorem dX10_source_2 : decode cX10_source 2 = .ok (.lconst 0, 1) := by decide +kernel
theorem dX10_source_3 : decode cX10_source 3 = .ok (.ldc2_w 348, 3) := by decide +kernel
theorem dX10_source_6 : decode cX10_source 6 = .ok (.invokestatic 74, 3) := by decide +kernel
theorem dX10_source_9 : decode cX10_source 9 = .ok (.ifCond .ne 6, 3) := by decide +kernel
theorem dX10_source_12 : decode cX10_source 12 = .ok (.ldc 84, 2) := by decide +kernel
theorem dX10_source_14 : decode cX10_source 14 = .ok (.ireturn, 1) := by decide +kernel
theorem dX10_source_15 : decode cX10_source 15 = .ok (.aload_n 0, 1) := by decide +kernel
theorem dX10_source_16 : decode cX10_source 16 = .ok (.getfield 7, 3) := by decide +kernel
theorem dX10_source_19 : decode cX10_source 19 = .ok (.bipush 6, 2) := by decide +kernel
theorem dX10_source_21 : decode cX10_source 21 = .ok (.iaload, 1) := by decide +kernel
theorem dX10_source_22 : decode cX10_source 22 = .ok (.bipush 8, 2) := by decide +kernel
theorem dX10_source_24 : decode cX10_source 24 = .ok (.if_icmp .ne 6, 3) := by decide +kernel
theorem dX10_source_27 : decode cX10_source 27 = .ok (.ldc 86, 2) := by decide +kernel
theorem dX10_source_29 : decode cX10_source 29 = .ok (.ireturn, 1) := by decide +kernel
theorem dX10_source_30 : decode cX10_source 30 = .ok (.aload_n 0, 1) := by decide +kernel
theorem dX10_source_31 : decode cX10_source 31 = .ok (.getfield 7, 3) := by decide +kernel
theorem dX10_source_34 : decode cX10_source 34 = .ok (.sipush 490, 3) := by decide +kernel
theorem dX10_source_37 : decode cX10_source 37 = .ok (.aload_n 0, 1) := by decide +kernel
theorem dX10_source_38 : decode cX10_source 38 = .ok (.getfield 7, 3) := by decide +kernel
theorem dX10_source_41 : decode cX10_source 41 = .ok (.bipush 6, 2) := by decide +kernel
theorem dX10_source_43 : decode cX10_source 43 = .ok (.iaload, 1) := by decide +kernel
theorem dX10_source_44 : decode cX10_source 44 = .ok (.iadd, 1) := by decide +kernel
theorem dX10_source_45 : decode cX10_source 45 = .ok (.iload_n 1, 1) := by decide +kernel
theorem dX10_source_46 : decode cX10_source 46 = .ok (.iastore, 1) := by decide +kernel
theorem dX10_source_47 : decode cX10_source 47 = .ok (.aload_n 0, 1) := by decide +kernel
theorem dX10_source_48 : decode cX10_source 48 = .ok (.getfield 7, 3) := by decide +kernel
theorem dX10_source_51 : decode cX10_source 51 = .ok (.bipush 6, 2) := by decide +kernel
theorem dX10_source_53 : decode cX10_source 53 = .ok (.dup2, 1) := by decide +kernel
theorem dX10_source_54 : decode cX10_source 54 = .ok (.iaload, 1) := by decide +kernel
theorem dX10_source_55 : decode cX10_source 55 = .ok (.iconst 1, 1) := by decide +kernel
theorem dX10_source_56 : decode cX10_source 56 = .ok (.iadd, 1) := by decide +kernel
theorem dX10_source_57 : decode cX10_source 57 = .ok (.iastore, 1) := by decide +kernel
theorem dX10_source_58 : decode cX10_source 58 = .ok (.aload_n 0, 1) := by decide +kernel
theorem dX10_source_59 : decode cX10_source 59 = .ok (.getfield 7, 3) := by decide +kernel
theorem dX10_source_62 : decode cX10_source 62 = .ok (.bipush 6, 2) := by decide +kernel
theorem dX10_source_64 : decode cX10_source 64 = .ok (.iaload, 1) := by decide +kernel
theorem dX10_source_65 : decode cX10_source 65 = .ok (.iconst 1, 1) := by decide +kernel
theorem dX10_source_66 : decode cX10_source 66 = .ok (.isub, 1) := by decide +kernel
theorem dX10_source_67 : decode cX10_source 67 = .ok (.ireturn, 1) := by decide +kernel
theorem dX10_leftBy_0 : decode cX10_leftBy 0 = .ok (.iconst 0, 1) := by decide +kernel
theorem dX10_leftBy_1 : decode cX10_leftBy 1 = .ok (.istore 4, 2) := by decide +kernel
theorem dX10_leftBy_3 : decode cX10_leftBy 3 = .ok (.iconst 0, 1) := by decide +kernel
theorem dX10_leftBy_4 : decode cX10_leftBy 4 = .ok (.istore 5, 2) := by decide +kernel
theorem dX10_leftBy_6 : decode cX10_leftBy 6 = .ok (.iload 5, 2) := by decide +kernel
theorem dX10_leftBy_8 : decode cX10_leftBy 8 = .ok (.bipush 8, 2) := by decide +kernel
theorem dX10_leftBy_10 : decode cX10_leftBy 10 = .ok (.if_icmp .ge 65, 3) := by decide +kernel
theorem dX10_leftBy_13 : decode cX10_leftBy 13 = .ok (.iload_n 1, 1) := by decide +kernel
theorem dX10_leftBy_14 : decode cX10_leftBy 14 = .ok (.iload 5, 2) := by decide +kernel
theorem dX10_leftBy_16 : decode cX10_leftBy 16 = .ok (.ishr, 1) := by decide +kernel
theorem dX10_leftBy_17 : decode cX10_leftBy 17 = .ok (.iconst 1, 1) := by decide +kernel
theorem dX10_leftBy_18 : decode cX10_leftBy 18 = .ok (.iand, 1) := by decide +kernel
theorem dX10_leftBy_19 : decode cX10_leftBy 19 = .ok (.iconst 1, 1) := by decide +kernel
theorem dX10_leftBy_20 : decode cX10_leftBy 20 = .ok (.if_icmp .ne 28, 3) := by decide +kernel
theorem dX10_leftBy_23 : decode cX10_leftBy 23 = .ok (.aload_n 0, 1) := by decide +kernel
theorem dX10_leftBy_24 : decode cX10_leftBy 24 = .ok (.getfield 7, 3) := by decide +kernel
theorem dX10_leftBy_27 : decode cX10_leftBy 27 = .ok (.sipush 490, 3) := by decide +kernel
theorem dX10_leftBy_30 : decode cX10_leftBy 30 = .ok (.iload_n 2, 1) := by decide +kernel
theorem dX10_leftBy_31 : decode cX10_leftBy 31 = .ok (.iadd, 1) := by decide +kernel
theorem dX10_leftBy_32 : decode cX10_leftBy 32 = .ok (.iaload, 1) := by decide +kernel
theorem dX10_leftBy_33 : decode cX10_leftBy 33 = .ok (.iconst 2, 1) := by decide +kernel
theorem dX10_leftBy_34 : decode cX10_leftBy 34 = .ok (.iload 5, 2) := by decide +kernel
theorem dX10_leftBy_36 : decode cX10_leftBy 36 = .ok (.imul, 1) := by decide +kernel
theorem dX10_leftBy_37 : decode cX10_leftBy 37 = .ok (.ishr, 1) := by decide +kernel
theorem dX10_leftBy_38 : decode cX10_leftBy 38 = .ok (.iconst 3, 1) := by decide +kernel
theorem dX10_leftBy_39 : decode cX10_leftBy 39 = .ok (.iand, 1) := by decide +kernel
theorem dX10_leftBy_40 : decode cX10_leftBy 40 = .ok (.iload_n 3, 1) := by decide +kernel
theorem dX10_leftBy_41 : decode cX10_leftBy 41 = .ok (.if_icmp .ne 7, 3) := by decide +kernel
theorem dX10_leftBy_44 : decode cX10_leftBy 44 = .ok (.iconst 1, 1) := by decide +kernel
theorem dX10_leftBy_45 : decode cX10_leftBy 45 = .ok (.goto 4, 3) := by decide +kernel
theorem dX10_leftBy_48 : decode cX10_leftBy 48 = .ok (.iconst 0, 1) := by decide +kernel
theorem dX10_leftBy_49 : decode cX10_leftBy 49 = .ok (.istore 6, 2) := by decide +kernel
theorem dX10_leftBy_51 : decode cX10_leftBy 51 = .ok (.iload 4, 2) := by decide +kernel
theorem dX10_leftBy_53 : decode cX10_leftBy 53 = .ok (.iload 6, 2) := by decide +kernel
theorem dX10_leftBy_55 : decode cX10_leftBy 55 = .ok (.ifCond .eq 10, 3) := by decide +kernel
theorem dX10_leftBy_58 : decode cX10_leftBy 58 = .ok (.iconst 1, 1) := by decide +kernel
theorem dX10_leftBy_59 : decode cX10_leftBy 59 = .ok (.iload 5, 2) := by decide +kernel
theorem dX10_leftBy_61 : decode cX10_leftBy 61 = .ok (.ishl, 1) := by decide +kernel
theorem dX10_leftBy_62 : decode cX10_leftBy 62 = .ok (.goto 4, 3) := by decide +kernel
theorem dX10_leftBy_65 : decode cX10_leftBy 65 = .ok (.iconst 0, 1) := by decide +kernel
theorem dX10_leftBy_66 : decode cX10_leftBy 66 = .ok (.ior, 1) := by decide +kernel
theorem dX10_leftBy_67 : decode cX10_leftBy 67 = .ok (.istore 4, 2) := by decide +kernel
theorem dX10_leftBy_69 : decode cX10_leftBy 69 = .ok (.iinc 5 1, 3) := by decide +kernel
theorem dX10_leftBy_72 : decode cX10_leftBy 72 = .ok (.goto (-66), 3) := by decide +kernel
theorem dX10_leftBy_75 : decode cX10_leftBy 75 = .ok (.iload 4, 2) := by decide +kernel
theorem dX10_leftBy_77 : decode cX10_leftBy 77 = .ok (.ireturn, 1) := by decide +kernel
theorem dX10_next_0 : decode cX10_next 0 = .ok (.iload_n 1, 1) := by decide +kernel
theorem dX10_next_1 : decode cX10_next 1 = .ok (.i2l, 1) := by decide +kernel
theorem dX10_next_2 : decode cX10_next 2 = .ok (.lconst 1, 1) := by decide +kernel
theorem dX10_next_3 : decode cX10_next 3 = .ok (.ldc2_w 350, 3) := by decide +kernel
theorem dX10_next_6 : decode cX10_next 6 = .ok (.invokestatic 74, 3) := by decide +kernel
theorem dX10_next_9 : decode cX10_next 9 = .ok (.ifCond .ne 6, 3) := by decide +kernel
theorem dX10_next_12 : decode cX10_next 12 = .ok (.ldc 84, 2) := by decide +kernel
theorem dX10_next_14 : decode cX10_next 14 = .ok (.ireturn, 1) := by decide +kernel
theorem dX10_next_15 : decode cX10_next 15 = .ok (.iconst (-1), 1) := by decide +kernel
theorem dX10_next_16 : decode cX10_next 16 = .ok (.istore_n 2, 1) := by decide +kernel
theorem dX10_next_17 : decode cX10_next 17 = .ok (.iconst 0, 1) := by decide +kernel
theorem dX10_next_18 : decode cX10_next 18 = .ok (.istore_n 3, 1) := by decide +kernel
theorem dX10_next_19 : decode cX10_next 19 = .ok (.iconst 0, 1) := by decide +kernel
theorem dX10_next_20 : decode cX10_next 20 = .ok (.istore 4, 2) := by decide +kernel
theorem dX10_next_22 : decode cX10_next 22 = .ok (.iload 4, 2) := by decide +kernel
theorem dX10_next_24 : decode cX10_next 24 = .ok (.aload_n 0, 1) := by decide +kernel
theorem dX10_next_25 : decode cX10_next 25 = .ok (.getfield 7, 3) := by decide +kernel
theorem dX10_next_28 : decode cX10_next 28 = .ok (.bipush 6, 2) := by decide +kernel
theorem dX10_next_30 : decode cX10_next 30 = .ok (.iaload, 1) := by decide +kernel
theorem dX10_next_31 : decode cX10_next 31 = .ok (.if_icmp .ge 73, 3) := by decide +kernel
theorem dX10_next_34 : decode cX10_next 34 = .ok (.iconst 0, 1) := by decide +kernel
theorem dX10_next_35 : decode cX10_next 35 = .ok (.istore 5, 2) := by decide +kernel
theorem dX10_next_37 : decode cX10_next 37 = .ok (.iconst 0, 1) := by decide +kernel
theorem dX10_next_38 : decode cX10_next 38 = .ok (.istore 6, 2) := by decide +kernel
theorem dX10_next_40 : decode cX10_next 40 = .ok (.iload 6, 2) := by decide +kernel
theorem dX10_next_42 : decode cX10_next 42 = .ok (.iconst 4, 1) := by decide +kernel
theorem dX10_next_43 : decode cX10_next 43 = .ok (.if_icmp .ge 39, 3) := by decide +kernel
theorem dX10_next_46 : decode cX10_next 46 = .ok (.aload_n 0, 1) := by decide +kernel
theorem dX10_next_47 : decode cX10_next 47 = .ok (.iload_n 1, 1) := by decide +kernel
theorem dX10_next_48 : decode cX10_next 48 = .ok (.iload 4, 2) := by decide +kernel
theorem dX10_next_50 : decode cX10_next 50 = .ok (.iload 6, 2) := by decide +kernel
theorem dX10_next_52 : decode cX10_next 52 = .ok (.invokevirtual 352, 3) := by decide +kernel
theorem dX10_next_55 : decode cX10_next 55 = .ok (.invokestatic 340, 3) := by decide +kernel
theorem dX10_next_58 : decode cX10_next 58 = .ok (.istore 7, 2) := by decide +kernel
theorem dX10_next_60 : decode cX10_next 60 = .ok (.iload 7, 2) := by decide +kernel
theorem dX10_next_62 : decode cX10_next 62 = .ok (.iload 5, 2) := by decide +kernel
theorem dX10_next_64 : decode cX10_next 64 = .ok (.if_icmp .le 8, 3) := by decide +kernel
theorem dX10_next_67 : decode cX10_next 67 = .ok (.iload 7, 2) := by decide +kernel
theorem dX10_next_69 : decode cX10_next 69 = .ok (.goto 5, 3) := by decide +kernel
theorem dX10_next_72 : decode cX10_next 72 = .ok (.iload 5, 2) := by decide +kernel
theorem dX10_next_74 : decode cX10_next 74 = .ok (.istore 5, 2) := by decide +kernel
theorem dX10_next_76 : decode cX10_next 76 = .ok (.iinc 6 1, 3) := by decide +kernel
theorem dX10_next_79 : decode cX10_next 79 = .ok (.goto (-39), 3) := by decide +kernel
theorem dX10_next_82 : decode cX10_next 82 = .ok (.iload_n 2, 1) := by decide +kernel
theorem dX10_next_83 : decode cX10_next 83 = .ok (.ifCond .lt 9, 3) := by decide +kernel
theorem dX10_next_86 : decode cX10_next 86 = .ok (.iload 5, 2) := by decide +kernel
theorem dX10_next_88 : decode cX10_next 88 = .ok (.iload_n 3, 1) := by decide +kernel
theorem dX10_next_89 : decode cX10_next 89 = .ok (.if_icmp .ge 9, 3) := by decide +kernel
theorem dX10_next_92 : decode cX10_next 92 = .ok (.iload 4, 2) := by decide +kernel
theorem dX10_next_94 : decode cX10_next 94 = .ok (.istore_n 2, 1) := by decide +kernel
theorem dX10_next_95 : decode cX10_next 95 = .ok (.iload 5, 2) := by decide +kernel
theorem dX10_next_97 : decode cX10_next 97 = .ok (.istore_n 3, 1) := by decide +kernel
theorem dX10_next_98 : decode cX10_next 98 = .ok (.iinc 4 1, 3) := by decide +kernel
theorem dX10_next_101 : decode cX10_next 101 = .ok (.goto (-79), 3) := by decide +kernel
theorem dX10_next_104 : decode cX10_next 104 = .ok (.iload_n 2, 1) := by decide +kernel
theorem dX10_next_105 : decode cX10_next 105 = .ok (.invokestatic 141, 3) := by decide +kernel
theorem dX10_next_108 : decode cX10_next 108 = .ok (.ireturn, 1) := by decide +kernel
theorem dX10_heard_0 : decode cX10_heard 0 = .ok (.iload_n 1, 1) := by decide +kernel
theorem dX10_heard_1 : decode cX10_heard 1 = .ok (.i2l, 1) := by decide +kernel
theorem dX10_heard_2 : decode cX10_heard 2 = .ok (.lconst 0, 1) := by decide +kernel
theorem dX10_heard_3 : decode cX10_heard 3 = .ok (.ldc2_w 350, 3) := by decide +kernel
theorem dX10_heard_6 : decode cX10_heard 6 = .ok (.invokestatic 74, 3) := by decide +kernel
theorem dX10_heard_9 : decode cX10_heard 9 = .ok (.ifCond .eq 44, 3) := by decide +kernel
theorem dX10_heard_12 : decode cX10_heard 12 = .ok (.iload_n 2, 1) := by decide +kernel
theorem dX10_heard_13 : decode cX10_heard 13 = .ok (.i2l, 1) := by decide +kernel
theorem dX10_heard_14 : decode cX10_heard 14 = .ok (.lconst 0, 1) := by decide +kernel
theorem dX10_heard_15 : decode cX10_heard 15 = .ok (.aload_n 0, 1) := by decide +kernel
theorem dX10_heard_16 : decode cX10_heard 16 = .ok (.getfield 7, 3) := by decide +kernel
theorem dX10_heard_19 : decode cX10_heard 19 = .ok (.bipush 6, 2) := by decide +kernel
theorem dX10_heard_21 : decode cX10_heard 21 = .ok (.iaload, 1) := by decide +kernel
theorem dX10_heard_22 : decode cX10_heard 22 = .ok (.iconst 1, 1) := by decide +kernel
theorem dX10_heard_23 : decode cX10_heard 23 = .ok (.isub, 1) := by decide +kernel
theorem dX10_heard_24 : decode cX10_heard 24 = .ok (.i2l, 1) := by decide +kernel
theorem dX10_heard_25 : decode cX10_heard 25 = .ok (.invokestatic 74, 3) := by decide +kernel
theorem dX10_heard_28 : decode cX10_heard 28 = .ok (.ifCond .eq 25, 3) := by decide +kernel
theorem dX10_heard_31 : decode cX10_heard 31 = .ok (.iload_n 3, 1) := by decide +kernel
theorem dX10_heard_32 : decode cX10_heard 32 = .ok (.i2l, 1) := by decide +kernel
theorem dX10_heard_33 : decode cX10_heard 33 = .ok (.lconst 0, 1) := by decide +kernel
theorem dX10_heard_34 : decode cX10_heard 34 = .ok (.ldc2_w 355, 3) := by decide +kernel
theorem dX10_heard_37 : decode cX10_heard 37 = .ok (.invokestatic 74, 3) := by decide +kernel
theorem dX10_heard_40 : decode cX10_heard 40 = .ok (.ifCond .eq 13, 3) := by decide +kernel
theorem dX10_heard_43 : decode cX10_heard 43 = .ok (.aload_n 0, 1) := by decide +kernel
theorem dX10_heard_44 : decode cX10_heard 44 = .ok (.iload_n 1, 1) := by decide +kernel
theorem dX10_heard_45 : decode cX10_heard 45 = .ok (.iload_n 2, 1) := by decide +kernel
theorem dX10_heard_46 : decode cX10_heard 46 = .ok (.iload_n 3, 1) := by decide +kernel
theorem dX10_heard_47 : decode cX10_heard 47 = .ok (.invokevirtual 352, 3) := by decide +kernel
theorem dX10_heard_50 : decode cX10_heard 50 = .ok (.goto 5, 3) := by decide +kernel
theorem dX10_heard_53 : decode cX10_heard 53 = .ok (.ldc 84, 2) := by decide +kernel
theorem dX10_heard_55 : decode cX10_heard 55 = .ok (.ireturn, 1) := by decide +kernel
theorem dX10_seed_0 : decode cX10_seed 0 = .ok (.aload_n 0, 1) := by decide +kernel
theorem dX10_seed_1 : decode cX10_seed 1 = .ok (.bipush 7, 2) := by decide +kernel
theorem dX10_seed_3 : decode cX10_seed 3 = .ok (.iload_n 1, 1) := by decide +kernel
theorem dX10_seed_4 : decode cX10_seed 4 = .ok (.invokevirtual 155, 3) := by decide +kernel
theorem dX10_seed_7 : decode cX10_seed 7 = .ok (.ireturn, 1) := by decide +kernel
theorem dX10_drawn_0 : decode cX10_drawn 0 = .ok (.aload_n 0, 1) := by decide +kernel
theorem dX10_drawn_1 : decode cX10_drawn 1 = .ok (.getfield 7, 3) := by decide +kernel
theorem dX10_drawn_4 : decode cX10_drawn 4 = .ok (.bipush 7, 2) := by decide +kernel
theorem dX10_drawn_6 : decode cX10_drawn 6 = .ok (.aload_n 0, 1) := by decide +kernel
theorem dX10_drawn_7 : decode cX10_drawn 7 = .ok (.getfield 7, 3) := by decide +kernel
theorem dX10_drawn_10 : decode cX10_drawn 10 = .ok (.bipush 7, 2) := by decide +kernel
theorem dX10_drawn_12 : decode cX10_drawn 12 = .ok (.iaload, 1) := by decide +kernel
theorem dX10_drawn_13 : decode cX10_drawn 13 = .ok (.ldc_w 357, 3) := by decide +kernel
theorem dX10_drawn_16 : decode cX10_drawn 16 = .ok (.imul, 1) := by decide +kernel
theorem dX10_drawn_17 : decode cX10_drawn 17 = .ok (.sipush 12345, 3) := by decide +kernel
theorem dX10_drawn_20 : decode cX10_drawn 20 = .ok (.iadd, 1) := by decide +kernel
theorem dX10_drawn_21 : decode cX10_drawn 21 = .ok (.iastore, 1) := by decide +kernel
theorem dX10_drawn_22 : decode cX10_drawn 22 = .ok (.aload_n 0, 1) := by decide +kernel
theorem dX10_drawn_23 : decode cX10_drawn 23 = .ok (.getfield 7, 3) := by decide +kernel
theorem dX10_drawn_26 : decode cX10_drawn 26 = .ok (.bipush 8, 2) := by decide +kernel
theorem dX10_drawn_28 : decode cX10_drawn 28 = .ok (.iaload, 1) := by decide +kernel
theorem dX10_drawn_29 : decode cX10_drawn 29 = .ok (.iload_n 1, 1) := by decide +kernel
theorem dX10_drawn_30 : decode cX10_drawn 30 = .ok (.isub, 1) := by decide +kernel
theorem dX10_drawn_31 : decode cX10_drawn 31 = .ok (.aload_n 0, 1) := by decide +kernel
theorem dX10_drawn_32 : decode cX10_drawn 32 = .ok (.getfield 7, 3) := by decide +kernel
theorem dX10_drawn_35 : decode cX10_drawn 35 = .ok (.bipush 7, 2) := by decide +kernel
theorem dX10_drawn_37 : decode cX10_drawn 37 = .ok (.iaload, 1) := by decide +kernel
theorem dX10_drawn_38 : decode cX10_drawn 38 = .ok (.bipush 8, 2) := by decide +kernel
theorem dX10_drawn_40 : decode cX10_drawn 40 = .ok (.iushr, 1) := by decide +kernel
theorem dX10_drawn_41 : decode cX10_drawn 41 = .ok (.iconst 2, 1) := by decide +kernel
theorem dX10_drawn_42 : decode cX10_drawn 42 = .ok (.iload_n 1, 1) := by decide +kernel
theorem dX10_drawn_43 : decode cX10_drawn 43 = .ok (.imul, 1) := by decide +kernel
theorem dX10_drawn_44 : decode cX10_drawn 44 = .ok (.iconst 1, 1) := by decide +kernel
theorem dX10_drawn_45 : decode cX10_drawn 45 = .ok (.iadd, 1) := by decide +kernel
theorem dX10_drawn_46 : decode cX10_drawn 46 = .ok (.irem, 1) := by decide +kernel
theorem dX10_drawn_47 : decode cX10_drawn 47 = .ok (.iadd, 1) := by decide +kernel
theorem dX10_drawn_48 : decode cX10_drawn 48 = .ok (.sipush 9999, 3) := by decide +kernel
theorem dX10_drawn_51 : decode cX10_drawn 51 = .ok (.invokestatic 118, 3) := by decide +kernel
theorem dX10_drawn_54 : decode cX10_drawn 54 = .ok (.ireturn, 1) := by decide +kernel
theorem dX10_share_0 : decode cX10_share 0 = .ok (.iload_n 1, 1) := by decide +kernel
theorem dX10_share_1 : decode cX10_share 1 = .ok (.bipush 100, 2) := by decide +kernel
theorem dX10_share_3 : decode cX10_share 3 = .ok (.idiv, 1) := by decide +kernel
theorem dX10_share_4 : decode cX10_share 4 = .ok (.istore 5, 2) := by decide +kernel
theorem dX10_share_6 : decode cX10_share 6 = .ok (.iload_n 1, 1) := by decide +kernel
theorem dX10_share_7 : decode cX10_share 7 = .ok (.bipush 100, 2) := by decide +kernel
theorem dX10_share_9 : decode cX10_share 9 = .ok (.irem, 1) := by decide +kernel
theorem dX10_share_10 : decode cX10_share 10 = .ok (.istore 6, 2) := by decide +kernel
theorem dX10_share_12 : decode cX10_share 12 = .ok (.iload_n 1, 1) := by decide +kernel
theorem dX10_share_13 : decode cX10_share 13 = .ok (.ifCond .lt 60, 3) := by decide +kernel
theorem dX10_share_16 : decode cX10_share 16 = .ok (.iload 5, 2) := by decide +kernel
theorem dX10_share_18 : decode cX10_share 18 = .ok (.i2l, 1) := by decide +kernel
theorem dX10_share_19 : decode cX10_share 19 = .ok (.lconst 1, 1) := by decide +kernel
theorem dX10_share_20 : decode cX10_share 20 = .ok (.ldc2_w 358, 3) := by decide +kernel
theorem dX10_share_23 : decode cX10_share 23 = .ok (.invokestatic 74, 3) := by decide +kernel
theorem dX10_share_26 : decode cX10_share 26 = .ok (.ifCond .eq 47, 3) := by decide +kernel
theorem dX10_share_29 : decode cX10_share 29 = .ok (.iload 6, 2) := by decide +kernel
theorem dX10_share_31 : decode cX10_share 31 = .ok (.i2l, 1) := by decide +kernel
theorem dX10_share_32 : decode cX10_share 32 = .ok (.ldc2_w 259, 3) := by decide +kernel
theorem dX10_share_35 : decode cX10_share 35 = .ok (.ldc2_w 295, 3) := by decide +kernel
theorem dX10_share_38 : decode cX10_share 38 = .ok (.invokestatic 74, 3) := by decide +kernel
theorem dX10_share_41 : decode cX10_share 41 = .ok (.ifCond .eq 32, 3) := by decide +kernel
theorem dX10_share_44 : decode cX10_share 44 = .ok (.iload_n 2, 1) := by decide +kernel
theorem dX10_share_45 : decode cX10_share 45 = .ok (.invokestatic 99, 3) := by decide +kernel
theorem dX10_share_48 : decode cX10_share 48 = .ok (.ifCond .eq 25, 3) := by decide +kernel
theorem dX10_share_51 : decode cX10_share 51 = .ok (.iload_n 3, 1) := by decide +kernel
theorem dX10_share_52 : decode cX10_share 52 = .ok (.i2l, 1) := by decide +kernel
theorem dX10_share_53 : decode cX10_share 53 = .ok (.ldc2_w 259, 3) := by decide +kernel
theorem dX10_share_56 : decode cX10_share 56 = .ok (.ldc2_w 295, 3) := by decide +kernel
theorem dX10_share_59 : decode cX10_share 59 = .ok (.invokestatic 74, 3) := by decide +kernel
theorem dX10_share_62 : decode cX10_share 62 = .ok (.ifCond .eq 11, 3) := by decide +kernel
theorem dX10_share_65 : decode cX10_share 65 = .ok (.iload 4, 2) := by decide +kernel
theorem dX10_share_67 : decode cX10_share 67 = .ok (.invokestatic 286, 3) := by decide +kernel
theorem dX10_share_70 : decode cX10_share 70 = .ok (.ifCond .ne 6, 3) := by decide +kernel
theorem dX10_share_73 : decode cX10_share 73 = .ok (.ldc 84, 2) := by decide +kernel
theorem dX10_share_75 : decode cX10_share 75 = .ok (.ireturn, 1) := by decide +kernel
theorem dX10_share_76 : decode cX10_share 76 = .ok (.aload_n 0, 1) := by decide +kernel
theorem dX10_share_77 : decode cX10_share 77 = .ok (.iload_n 2, 1) := by decide +kernel
theorem dX10_share_78 : decode cX10_share 78 = .ok (.iconst 0, 1) := by decide +kernel
theorem dX10_share_79 : decode cX10_share 79 = .ok (.invokevirtual 125, 3) := by decide +kernel
theorem dX10_share_82 : decode cX10_share 82 = .ok (.istore 7, 2) := by decide +kernel
theorem dX10_share_84 : decode cX10_share 84 = .ok (.iconst 0, 1) := by decide +kernel
theorem dX10_share_85 : decode cX10_share 85 = .ok (.istore 8, 2) := by decide +kernel
theorem dX10_share_87 : decode cX10_share 87 = .ok (.iconst 0, 1) := by decide +kernel
theorem dX10_share_88 : decode cX10_share 88 = .ok (.istore 9, 2) := by decide +kernel
theorem dX10_share_90 : decode cX10_share 90 = .ok (.iload 9, 2) := by decide +kernel
theorem dX10_share_92 : decode cX10_share 92 = .ok (.iload 5, 2) := by decide +kernel
theorem dX10_share_94 : decode cX10_share 94 = .ok (.if_icmp .ge 100, 3) := by decide +kernel
theorem dX10_share_97 : decode cX10_share 97 = .ok (.iconst 0, 1) := by decide +kernel
theorem dX10_share_98 : decode cX10_share 98 = .ok (.istore 10, 2) := by decide +kernel
theorem dX10_share_100 : decode cX10_share 100 = .ok (.iconst 0, 1) := by decide +kernel
theorem dX10_share_101 : decode cX10_share 101 = .ok (.istore 11, 2) := by decide +kernel
theorem dX10_share_103 : decode cX10_share 103 = .ok (.iconst (-1), 1) := by decide +kernel
theorem dX10_share_104 : decode cX10_share 104 = .ok (.istore 12, 2) := by decide +kernel
theorem dX10_share_106 : decode cX10_share 106 = .ok (.iconst 0, 1) := by decide +kernel
theorem dX10_share_107 : decode cX10_share 107 = .ok (.istore 13, 2) := by decide +kernel
theorem dX10_share_109 : decode cX10_share 109 = .ok (.iload 13, 2) := by decide +kernel
theorem dX10_share_111 : decode cX10_share 111 = .ok (.iload 6, 2) := by decide +kernel
theorem dX10_share_113 : decode cX10_share 113 = .ok (.if_icmp .ge 59, 3) := by decide +kernel
theorem dX10_share_116 : decode cX10_share 116 = .ok (.aload_n 0, 1) := by decide +kernel
theorem dX10_share_117 : decode cX10_share 117 = .ok (.iload 7, 2) := by decide +kernel
theorem dX10_share_119 : decode cX10_share 119 = .ok (.invokevirtual 360, 3) := by decide +kernel
theorem dX10_share_122 : decode cX10_share 122 = .ok (.iload 4, 2) := by decide +kernel
theorem dX10_share_124 : decode cX10_share 124 = .ok (.invokestatic 272, 3) := by decide +kernel
theorem dX10_share_127 : decode cX10_share 127 = .ok (.istore 14, 2) := by decide +kernel
theorem dX10_share_129 : decode cX10_share 129 = .ok (.iload 14, 2) := by decide +kernel
theorem dX10_share_131 : decode cX10_share 131 = .ok (.iload 12, 2) := by decide +kernel
theorem dX10_share_133 : decode cX10_share 133 = .ok (.if_icmp .ne 10, 3) := by decide +kernel
theorem dX10_share_136 : decode cX10_share 136 = .ok (.iload 11, 2) := by decide +kernel
theorem dX10_share_138 : decode cX10_share 138 = .ok (.iconst 1, 1) := by decide +kernel
theorem dX10_share_139 : decode cX10_share 139 = .ok (.iadd, 1) := by decide +kernel
theorem dX10_share_140 : decode cX10_share 140 = .ok (.goto 4, 3) := by decide +kernel
theorem dX10_share_143 : decode cX10_share 143 = .ok (.iconst 1, 1) := by decide +kernel
theorem dX10_share_144 : decode cX10_share 144 = .ok (.istore 11, 2) := by decide +kernel
theorem dX10_share_146 : decode cX10_share 146 = .ok (.iload 11, 2) := by decide +kernel
theorem dX10_share_148 : decode cX10_share 148 = .ok (.iload 10, 2) := by decide +kernel
theorem dX10_share_150 : decode cX10_share 150 = .ok (.if_icmp .le 8, 3) := by decide +kernel
theorem dX10_share_153 : decode cX10_share 153 = .ok (.iload 11, 2) := by decide +kernel
theorem dX10_share_155 : decode cX10_share 155 = .ok (.goto 5, 3) := by decide +kernel
theorem dX10_share_158 : decode cX10_share 158 = .ok (.iload 10, 2) := by decide +kernel
theorem dX10_share_160 : decode cX10_share 160 = .ok (.istore 10, 2) := by decide +kernel
theorem dX10_share_162 : decode cX10_share 162 = .ok (.iload 14, 2) := by decide +kernel
theorem dX10_share_164 : decode cX10_share 164 = .ok (.istore 12, 2) := by decide +kernel
theorem dX10_share_166 : decode cX10_share 166 = .ok (.iinc 13 1, 3) := by decide +kernel
theorem dX10_share_169 : decode cX10_share 169 = .ok (.goto (-60), 3) := by decide +kernel
theorem dX10_share_172 : decode cX10_share 172 = .ok (.iload 8, 2) := by decide +kernel
theorem dX10_share_174 : decode cX10_share 174 = .ok (.iload 10, 2) := by decide +kernel
theorem dX10_share_176 : decode cX10_share 176 = .ok (.iload_n 3, 1) := by decide +kernel
theorem dX10_share_177 : decode cX10_share 177 = .ok (.if_icmp .lt 7, 3) := by decide +kernel
theorem dX10_share_180 : decode cX10_share 180 = .ok (.iconst 1, 1) := by decide +kernel
theorem dX10_share_181 : decode cX10_share 181 = .ok (.goto 4, 3) := by decide +kernel
theorem dX10_share_184 : decode cX10_share 184 = .ok (.iconst 0, 1) := by decide +kernel
theorem dX10_share_185 : decode cX10_share 185 = .ok (.iadd, 1) := by decide +kernel
theorem dX10_share_186 : decode cX10_share 186 = .ok (.istore 8, 2) := by decide +kernel
theorem dX10_share_188 : decode cX10_share 188 = .ok (.iinc 9 1, 3) := by decide +kernel
theorem dX10_share_191 : decode cX10_share 191 = .ok (.goto (-101), 3) := by decide +kernel
theorem dX10_share_194 : decode cX10_share 194 = .ok (.iload 8, 2) := by decide +kernel
theorem dX10_share_196 : decode cX10_share 196 = .ok (.ireturn, 1) := by decide +kernel
theorem dX10_isSheet_0 : decode cX10_isSheet 0 = .ok (.iload_n 0, 1) := by decide +kernel
theorem dX10_isSheet_1 : decode cX10_isSheet 1 = .ok (.i2l, 1) := by decide +kernel
theorem dX10_isSheet_2 : decode cX10_isSheet 2 = .ok (.lconst 0, 1) := by decide +kernel
theorem dX10_isSheet_3 : decode cX10_isSheet 3 = .ok (.ldc2_w 355, 3) := by decide +kernel
theorem dX10_isSheet_6 : decode cX10_isSheet 6 = .ok (.invokestatic 74, 3) := by decide +kernel
theorem dX10_isSheet_9 : decode cX10_isSheet 9 = .ok (.ireturn, 1) := by decide +kernel
theorem dX10_sheet_0 : decode cX10_sheet 0 = .ok (.iload_n 1, 1) := by decide +kernel
theorem dX10_sheet_1 : decode cX10_sheet 1 = .ok (.invokestatic 363, 3) := by decide +kernel
theorem dX10_sheet_4 : decode cX10_sheet 4 = .ok (.ifCond .eq 25, 3) := by decide +kernel
theorem dX10_sheet_7 : decode cX10_sheet 7 = .ok (.iload_n 2, 1) := by decide +kernel
theorem dX10_sheet_8 : decode cX10_sheet 8 = .ok (.i2l, 1) := by decide +kernel
theorem dX10_sheet_9 : decode cX10_sheet 9 = .ok (.ldc2_w 366, 3) := by decide +kernel
theorem dX10_sheet_12 : decode cX10_sheet 12 = .ok (.lconst 1, 1) := by decide +kernel
theorem dX10_sheet_13 : decode cX10_sheet 13 = .ok (.invokestatic 74, 3) := by decide +kernel
theorem dX10_sheet_16 : decode cX10_sheet 16 = .ok (.ifCond .eq 13, 3) := by decide +kernel
theorem dX10_sheet_19 : decode cX10_sheet 19 = .ok (.iload_n 2, 1) := by decide +kernel
theorem dX10_sheet_20 : decode cX10_sheet 20 = .ok (.ifCond .lt 12, 3) := by decide +kernel
theorem dX10_sheet_23 : decode cX10_sheet 23 = .ok (.iload_n 3, 1) := by decide +kernel
theorem dX10_sheet_24 : decode cX10_sheet 24 = .ok (.bipush 24, 2) := by decide +kernel
theorem dX10_sheet_26 : decode cX10_sheet 26 = .ok (.if_icmp .le 6, 3) := by decide +kernel
theorem dX10_sheet_29 : decode cX10_sheet 29 = .ok (.ldc 84, 2) := by decide +kernel
theorem dX10_sheet_31 : decode cX10_sheet 31 = .ok (.ireturn, 1) := by decide +kernel
theorem dX10_sheet_32 : decode cX10_sheet 32 = .ok (.iload_n 2, 1) := by decide +kernel
theorem dX10_sheet_33 : decode cX10_sheet 33 = .ok (.ifCond .lt 11, 3) := by decide +kernel
theorem dX10_sheet_36 : decode cX10_sheet 36 = .ok (.iload_n 3, 1) := by decide +kernel
theorem dX10_sheet_37 : decode cX10_sheet 37 = .ok (.ifCond .ge 7, 3) := by decide +kernel
theorem dX10_sheet_40 : decode cX10_sheet 40 = .ok (.ldc_w 368, 3) := by decide +kernel
theorem dX10_sheet_43 : decode cX10_sheet 43 = .ok (.ireturn, 1) := by decide +kernel
theorem dX10_sheet_44 : decode cX10_sheet 44 = .ok (.aload_n 0, 1) := by decide +kernel
theorem dX10_sheet_45 : decode cX10_sheet 45 = .ok (.getfield 19, 3) := by decide +kernel
theorem dX10_sheet_48 : decode cX10_sheet 48 = .ok (.iload_n 1, 1) := by decide +kernel
theorem dX10_sheet_49 : decode cX10_sheet 49 = .ok (.iload_n 2, 1) := by decide +kernel
theorem dX10_sheet_50 : decode cX10_sheet 50 = .ok (.iastore, 1) := by decide +kernel
theorem dX10_sheet_51 : decode cX10_sheet 51 = .ok (.aload_n 0, 1) := by decide +kernel
theorem dX10_sheet_52 : decode cX10_sheet 52 = .ok (.getfield 22, 3) := by decide +kernel
theorem dX10_sheet_55 : decode cX10_sheet 55 = .ok (.iload_n 1, 1) := by decide +kernel
theorem dX10_sheet_56 : decode cX10_sheet 56 = .ok (.iload_n 2, 1) := by decide +kernel
theorem dX10_sheet_57 : decode cX10_sheet 57 = .ok (.ifCond .ge 7, 3) := by decide +kernel
theorem dX10_sheet_60 : decode cX10_sheet 60 = .ok (.iconst 0, 1) := by decide +kernel
theorem dX10_sheet_61 : decode cX10_sheet 61 = .ok (.goto 4, 3) := by decide +kernel
theorem dX10_sheet_64 : decode cX10_sheet 64 = .ok (.iload_n 3, 1) := by decide +kernel
theorem dX10_sheet_65 : decode cX10_sheet 65 = .ok (.iastore, 1) := by decide +kernel
theorem dX10_sheet_66 : decode cX10_sheet 66 = .ok (.iconst 0, 1) := by decide +kernel
theorem dX10_sheet_67 : decode cX10_sheet 67 = .ok (.istore 4, 2) := by decide +kernel
theorem dX10_sheet_69 : decode cX10_sheet 69 = .ok (.iload 4, 2) := by decide +kernel
theorem dX10_sheet_71 : decode cX10_sheet 71 = .ok (.bipush 24, 2) := by decide +kernel
theorem dX10_sheet_73 : decode cX10_sheet 73 = .ok (.if_icmp .ge 22, 3) := by decide +kernel
theorem dX10_sheet_76 : decode cX10_sheet 76 = .ok (.aload_n 0, 1) := by decide +kernel
theorem dX10_sheet_77 : decode cX10_sheet 77 = .ok (.getfield 25, 3) := by decide +kernel
theorem dX10_sheet_80 : decode cX10_sheet 80 = .ok (.bipush 24, 2) := by decide +kernel
theorem dX10_sheet_82 : decode cX10_sheet 82 = .ok (.iload_n 1, 1) := by decide +kernel
theorem dX10_sheet_83 : decode cX10_sheet 83 = .ok (.imul, 1) := by decide +kernel
theorem dX10_sheet_84 : decode cX10_sheet 84 = .ok (.iload 4, 2) := by decide +kernel
theorem dX10_sheet_86 : decode cX10_sheet 86 = .ok (.iadd, 1) := by decide +kernel
theorem dX10_sheet_87 : decode cX10_sheet 87 = .ok (.iconst 0, 1) := by decide +kernel
theorem dX10_sheet_88 : decode cX10_sheet 88 = .ok (.iastore, 1) := by decide +kernel
theorem dX10_sheet_89 : decode cX10_sheet 89 = .ok (.iinc 4 1, 3) := by decide +kernel
theorem dX10_sheet_92 : decode cX10_sheet 92 = .ok (.goto (-23), 3) := by decide +kernel
theorem dX10_sheet_95 : decode cX10_sheet 95 = .ok (.aload_n 0, 1) := by decide +kernel
theorem dX10_sheet_96 : decode cX10_sheet 96 = .ok (.getfield 22, 3) := by decide +kernel
theorem dX10_sheet_99 : decode cX10_sheet 99 = .ok (.iload_n 1, 1) := by decide +kernel
theorem dX10_sheet_100 : decode cX10_sheet 100 = .ok (.iaload, 1) := by decide +kernel
theorem dX10_sheet_101 : decode cX10_sheet 101 = .ok (.ireturn, 1) := by decide +kernel
theorem dX10_mark_0 : decode cX10_mark 0 = .ok (.iload_n 1, 1) := by decide +kernel
theorem dX10_mark_1 : decode cX10_mark 1 = .ok (.invokestatic 363, 3) := by decide +kernel
theorem dX10_mark_4 : decode cX10_mark 4 = .ok (.ifCond .ne 6, 3) := by decide +kernel
theorem dX10_mark_7 : decode cX10_mark 7 = .ok (.ldc 84, 2) := by decide +kernel
theorem dX10_mark_9 : decode cX10_mark 9 = .ok (.ireturn, 1) := by decide +kernel
theorem dX10_mark_10 : decode cX10_mark 10 = .ok (.aload_n 0, 1) := by decide +kernel
theorem dX10_mark_11 : decode cX10_mark 11 = .ok (.getfield 19, 3) := by decide +kernel
theorem dX10_mark_14 : decode cX10_mark 14 = .ok (.iload_n 1, 1) := by decide +kernel
theorem dX10_mark_15 : decode cX10_mark 15 = .ok (.iaload, 1) := by decide +kernel
theorem dX10_mark_16 : decode cX10_mark 16 = .ok (.ifCond .ge 7, 3) := by decide +kernel
theorem dX10_mark_19 : decode cX10_mark 19 = .ok (.ldc_w 369, 3) := by decide +kernel
theorem dX10_mark_22 : decode cX10_mark 22 = .ok (.ireturn, 1) := by decide +kernel
theorem dX10_mark_23 : decode cX10_mark 23 = .ok (.iload_n 2, 1) := by decide +kernel
theorem dX10_mark_24 : decode cX10_mark 24 = .ok (.i2l, 1) := by decide +kernel
theorem dX10_mark_25 : decode cX10_mark 25 = .ok (.lconst 0, 1) := by decide +kernel
theorem dX10_mark_26 : decode cX10_mark 26 = .ok (.aload_n 0, 1) := by decide +kernel
theorem dX10_mark_27 : decode cX10_mark 27 = .ok (.getfield 22, 3) := by decide +kernel
theorem dX10_mark_30 : decode cX10_mark 30 = .ok (.iload_n 1, 1) := by decide +kernel
theorem dX10_mark_31 : decode cX10_mark 31 = .ok (.iaload, 1) := by decide +kernel
theorem dX10_mark_32 : decode cX10_mark 32 = .ok (.iconst 1, 1) := by decide +kernel
theorem dX10_mark_33 : decode cX10_mark 33 = .ok (.isub, 1) := by decide +kernel
theorem dX10_mark_34 : decode cX10_mark 34 = .ok (.i2l, 1) := by decide +kernel
theorem dX10_mark_35 : decode cX10_mark 35 = .ok (.invokestatic 74, 3) := by decide +kernel
theorem dX10_mark_38 : decode cX10_mark 38 = .ok (.ifCond .ne 7, 3) := by decide +kernel
theorem dX10_mark_41 : decode cX10_mark 41 = .ok (.ldc_w 370, 3) := by decide +kernel
theorem dX10_mark_44 : decode cX10_mark 44 = .ok (.ireturn, 1) := by decide +kernel
theorem dX10_mark_45 : decode cX10_mark 45 = .ok (.aload_n 0, 1) := by decide +kernel
theorem dX10_mark_46 : decode cX10_mark 46 = .ok (.getfield 19, 3) := by decide +kernel
theorem dX10_mark_49 : decode cX10_mark 49 = .ok (.iload_n 1, 1) := by decide +kernel
theorem dX10_mark_50 : decode cX10_mark 50 = .ok (.iaload, 1) := by decide +kernel
theorem dX10_mark_51 : decode cX10_mark 51 = .ok (.iconst 1, 1) := by decide +kernel
theorem dX10_mark_52 : decode cX10_mark 52 = .ok (.if_icmp .ne 12, 3) := by decide +kernel
theorem dX10_mark_55 : decode cX10_mark 55 = .ok (.iload_n 3, 1) := by decide +kernel
theorem dX10_mark_56 : decode cX10_mark 56 = .ok (.ldc 73, 2) := by decide +kernel
theorem dX10_mark_58 : decode cX10_mark 58 = .ok (.if_icmp .ne 6, 3) := by decide +kernel
theorem dX10_mark_61 : decode cX10_mark 61 = .ok (.ldc 154, 2) := by decide +kernel
theorem dX10_mark_63 : decode cX10_mark 63 = .ok (.ireturn, 1) := by decide +kernel
theorem dX10_mark_64 : decode cX10_mark 64 = .ok (.aload_n 0, 1) := by decide +kernel
theorem dX10_mark_65 : decode cX10_mark 65 = .ok (.getfield 19, 3) := by decide +kernel
theorem dX10_mark_68 : decode cX10_mark 68 = .ok (.iload_n 1, 1) := by decide +kernel
theorem dX10_mark_69 : decode cX10_mark 69 = .ok (.iaload, 1) := by decide +kernel
theorem dX10_mark_70 : decode cX10_mark 70 = .ok (.ifCond .ne 26, 3) := by decide +kernel
theorem dX10_mark_73 : decode cX10_mark 73 = .ok (.iload_n 3, 1) := by decide +kernel
theorem dX10_mark_74 : decode cX10_mark 74 = .ok (.ldc 73, 2) := by decide +kernel
theorem dX10_mark_76 : decode cX10_mark 76 = .ok (.if_icmp .eq 20, 3) := by decide +kernel
theorem dX10_mark_79 : decode cX10_mark 79 = .ok (.iload_n 3, 1) := by decide +kernel
theorem dX10_mark_80 : decode cX10_mark 80 = .ok (.i2l, 1) := by decide +kernel
theorem dX10_mark_81 : decode cX10_mark 81 = .ok (.ldc2_w 371, 3) := by decide +kernel
theorem dX10_mark_84 : decode cX10_mark 84 = .ok (.ldc2_w 373, 3) := by decide +kernel
theorem dX10_mark_87 : decode cX10_mark 87 = .ok (.invokestatic 74, 3) := by decide +kernel
theorem dX10_mark_90 : decode cX10_mark 90 = .ok (.ifCond .ne 6, 3) := by decide +kernel
theorem dX10_mark_93 : decode cX10_mark 93 = .ok (.ldc 84, 2) := by decide +kernel
theorem dX10_mark_95 : decode cX10_mark 95 = .ok (.ireturn, 1) := by decide +kernel
theorem dX10_mark_96 : decode cX10_mark 96 = .ok (.aload_n 0, 1) := by decide +kernel
theorem dX10_mark_97 : decode cX10_mark 97 = .ok (.getfield 25, 3) := by decide +kernel
theorem dX10_mark_100 : decode cX10_mark 100 = .ok (.bipush 24, 2) := by decide +kernel
theorem dX10_mark_102 : decode cX10_mark 102 = .ok (.iload_n 1, 1) := by decide +kernel
theorem dX10_mark_103 : decode cX10_mark 103 = .ok (.imul, 1) := by decide +kernel
theorem dX10_mark_104 : decode cX10_mark 104 = .ok (.iload_n 2, 1) := by decide +kernel
theorem dX10_mark_105 : decode cX10_mark 105 = .ok (.iadd, 1) := by decide +kernel
theorem dX10_mark_106 : decode cX10_mark 106 = .ok (.aload_n 0, 1) := by decide +kernel
theorem dX10_mark_107 : decode cX10_mark 107 = .ok (.getfield 19, 3) := by decide +kernel
theorem dX10_mark_110 : decode cX10_mark 110 = .ok (.iload_n 1, 1) := by decide +kernel
theorem dX10_mark_111 : decode cX10_mark 111 = .ok (.iaload, 1) := by decide +kernel
theorem dX10_mark_112 : decode cX10_mark 112 = .ok (.iconst 1, 1) := by decide +kernel
theorem dX10_mark_113 : decode cX10_mark 113 = .ok (.if_icmp .ne 13, 3) := by decide +kernel
theorem dX10_mark_116 : decode cX10_mark 116 = .ok (.iload_n 3, 1) := by decide +kernel
theorem dX10_mark_117 : decode cX10_mark 117 = .ok (.bipush 16, 2) := by decide +kernel
theorem dX10_mark_119 : decode cX10_mark 119 = .ok (.ishl, 1) := by decide +kernel
theorem dX10_mark_120 : decode cX10_mark 120 = .ok (.bipush 16, 2) := by decide +kernel
theorem dX10_mark_122 : decode cX10_mark 122 = .ok (.ishr, 1) := by decide +kernel
theorem dX10_mark_123 : decode cX10_mark 123 = .ok (.goto 4, 3) := by decide +kernel
theorem dX10_mark_126 : decode cX10_mark 126 = .ok (.iload_n 3, 1) := by decide +kernel
theorem dX10_mark_127 : decode cX10_mark 127 = .ok (.iastore, 1) := by decide +kernel
theorem dX10_mark_128 : decode cX10_mark 128 = .ok (.iconst 1, 1) := by decide +kernel
theorem dX10_mark_129 : decode cX10_mark 129 = .ok (.ireturn, 1) := by decide +kernel
theorem dX10_print_0 : decode cX10_print 0 = .ok (.aload_n 0, 1) := by decide +kernel
theorem dX10_print_1 : decode cX10_print 1 = .ok (.iload_n 1, 1) := by decide +kernel
theorem dX10_print_2 : decode cX10_print 2 = .ok (.invokevirtual 91, 3) := by decide +kernel
theorem dX10_print_5 : decode cX10_print 5 = .ok (.ifCond .eq 17, 3) := by decide +kernel
theorem dX10_print_8 : decode cX10_print 8 = .ok (.iload_n 2, 1) := by decide +kernel
theorem dX10_print_9 : decode cX10_print 9 = .ok (.invokestatic 363, 3) := by decide +kernel
theorem dX10_print_12 : decode cX10_print 12 = .ok (.ifCond .eq 10, 3) := by decide +kernel
theorem dX10_print_15 : decode cX10_print 15 = .ok (.iload_n 3, 1) := by decide +kernel
theorem dX10_print_16 : decode cX10_print 16 = .ok (.invokestatic 99, 3) := by decide +kernel
theorem dX10_print_19 : decode cX10_print 19 = .ok (.ifCond .ne 6, 3) := by decide +kernel
theorem dX10_print_22 : decode cX10_print 22 = .ok (.ldc 84, 2) := by decide +kernel
theorem dX10_print_24 : decode cX10_print 24 = .ok (.ireturn, 1) := by decide +kernel
theorem dX10_print_25 : decode cX10_print 25 = .ok (.aload_n 0, 1) := by decide +kernel
theorem dX10_print_26 : decode cX10_print 26 = .ok (.getfield 19, 3) := by decide +kernel
theorem dX10_print_29 : decode cX10_print 29 = .ok (.iload_n 2, 1) := by decide +kernel
theorem dX10_print_30 : decode cX10_print 30 = .ok (.iaload, 1) := by decide +kernel
theorem dX10_print_31 : decode cX10_print 31 = .ok (.ifCond .ge 7, 3) := by decide +kernel
theorem dX10_print_34 : decode cX10_print 34 = .ok (.ldc_w 369, 3) := by decide +kernel
theorem dX10_print_37 : decode cX10_print 37 = .ok (.ireturn, 1) := by decide +kernel
theorem dX10_print_38 : decode cX10_print 38 = .ok (.iconst 0, 1) := by decide +kernel
theorem dX10_print_39 : decode cX10_print 39 = .ok (.istore 4, 2) := by decide +kernel
theorem dX10_print_41 : decode cX10_print 41 = .ok (.iload 4, 2) := by decide +kernel
theorem dX10_print_43 : decode cX10_print 43 = .ok (.aload_n 0, 1) := by decide +kernel
theorem dX10_print_44 : decode cX10_print 44 = .ok (.getfield 22, 3) := by decide +kernel
theorem dX10_print_47 : decode cX10_print 47 = .ok (.iload_n 2, 1) := by decide +kernel
theorem dX10_print_48 : decode cX10_print 48 = .ok (.iaload, 1) := by decide +kernel
theorem dX10_print_49 : decode cX10_print 49 = .ok (.if_icmp .ge 32, 3) := by decide +kernel
theorem dX10_print_52 : decode cX10_print 52 = .ok (.aload_n 0, 1) := by decide +kernel
theorem dX10_print_53 : decode cX10_print 53 = .ok (.getfield 25, 3) := by decide +kernel
theorem dX10_print_56 : decode cX10_print 56 = .ok (.bipush 24, 2) := by decide +kernel
theorem dX10_print_58 : decode cX10_print 58 = .ok (.iload_n 2, 1) := by decide +kernel
theorem dX10_print_59 : decode cX10_print 59 = .ok (.imul, 1) := by decide +kernel
theorem dX10_print_60 : decode cX10_print 60 = .ok (.iload 4, 2) := by decide +kernel
theorem dX10_print_62 : decode cX10_print 62 = .ok (.iadd, 1) := by decide +kernel
theorem dX10_print_63 : decode cX10_print 63 = .ok (.iaload, 1) := by decide +kernel
theorem dX10_print_64 : decode cX10_print 64 = .ok (.i2l, 1) := by decide +kernel
theorem dX10_print_65 : decode cX10_print 65 = .ok (.lconst 0, 1) := by decide +kernel
theorem dX10_print_66 : decode cX10_print 66 = .ok (.ldc2_w 97, 3) := by decide +kernel
theorem dX10_print_69 : decode cX10_print 69 = .ok (.invokestatic 74, 3) := by decide +kernel
theorem dX10_print_72 : decode cX10_print 72 = .ok (.ifCond .eq 9, 3) := by decide +kernel
theorem dX10_print_75 : decode cX10_print 75 = .ok (.iinc 4 1, 3) := by decide +kernel
theorem dX10_print_78 : decode cX10_print 78 = .ok (.goto (-37), 3) := by decide +kernel
theorem dX10_print_81 : decode cX10_print 81 = .ok (.aload_n 0, 1) := by decide +kernel
theorem dX10_print_82 : decode cX10_print 82 = .ok (.getfield 7, 3) := by decide +kernel
theorem dX10_print_85 : decode cX10_print 85 = .ok (.iconst 1, 1) := by decide +kernel
theorem dX10_print_86 : decode cX10_print 86 = .ok (.iaload, 1) := by decide +kernel
theorem dX10_print_87 : decode cX10_print 87 = .ok (.iload 4, 2) := by decide +kernel
theorem dX10_print_89 : decode cX10_print 89 = .ok (.iadd, 1) := by decide +kernel
theorem dX10_print_90 : decode cX10_print 90 = .ok (.bipush 40, 2) := by decide +kernel
theorem dX10_print_92 : decode cX10_print 92 = .ok (.if_icmp .le 6, 3) := by decide +kernel
theorem dX10_print_95 : decode cX10_print 95 = .ok (.ldc 86, 2) := by decide +kernel
theorem dX10_print_97 : decode cX10_print 97 = .ok (.ireturn, 1) := by decide +kernel
theorem dX10_print_98 : decode cX10_print 98 = .ok (.iconst 0, 1) := by decide +kernel
theorem dX10_print_99 : decode cX10_print 99 = .ok (.istore 5, 2) := by decide +kernel
theorem dX10_print_101 : decode cX10_print 101 = .ok (.iload 5, 2) := by decide +kernel
theorem dX10_print_103 : decode cX10_print 103 = .ok (.iload 4, 2) := by decide +kernel
theorem dX10_print_105 : decode cX10_print 105 = .ok (.if_icmp .ge 31, 3) := by decide +kernel
theorem dX10_print_108 : decode cX10_print 108 = .ok (.aload_n 0, 1) := by decide +kernel
theorem dX10_print_109 : decode cX10_print 109 = .ok (.iload_n 1, 1) := by decide +kernel
theorem dX10_print_110 : decode cX10_print 110 = .ok (.iconst 1, 1) := by decide +kernel
theorem dX10_print_111 : decode cX10_print 111 = .ok (.aload_n 0, 1) := by decide +kernel
theorem dX10_print_112 : decode cX10_print 112 = .ok (.getfield 25, 3) := by decide +kernel
theorem dX10_print_115 : decode cX10_print 115 = .ok (.bipush 24, 2) := by decide +kernel
theorem dX10_print_117 : decode cX10_print 117 = .ok (.iload_n 2, 1) := by decide +kernel
theorem dX10_print_118 : decode cX10_print 118 = .ok (.imul, 1) := by decide +kernel
theorem dX10_print_119 : decode cX10_print 119 = .ok (.iload 5, 2) := by decide +kernel
theorem dX10_print_121 : decode cX10_print 121 = .ok (.iadd, 1) := by decide +kernel
theorem dX10_print_122 : decode cX10_print 122 = .ok (.iaload, 1) := by decide +kernel
theorem dX10_print_123 : decode cX10_print 123 = .ok (.iload_n 3, 1) := by decide +kernel
theorem dX10_print_124 : decode cX10_print 124 = .ok (.iconst (-1), 1) := by decide +kernel
theorem dX10_print_125 : decode cX10_print 125 = .ok (.invokevirtual 105, 3) := by decide +kernel
theorem dX10_print_128 : decode cX10_print 128 = .ok (.istore 6, 2) := by decide +kernel
theorem dX10_print_130 : decode cX10_print 130 = .ok (.iinc 5 1, 3) := by decide +kernel
theorem dX10_print_133 : decode cX10_print 133 = .ok (.goto (-32), 3) := by decide +kernel
theorem dX10_print_136 : decode cX10_print 136 = .ok (.iload 4, 2) := by decide +kernel
theorem dX10_print_138 : decode cX10_print 138 = .ok (.ireturn, 1) := by decide +kernel
theorem dX10_copy_0 : decode cX10_copy 0 = .ok (.iload_n 1, 1) := by decide +kernel
theorem dX10_copy_1 : decode cX10_copy 1 = .ok (.invokestatic 363, 3) := by decide +kernel
theorem dX10_copy_4 : decode cX10_copy 4 = .ok (.ifCond .eq 10, 3) := by decide +kernel
theorem dX10_copy_7 : decode cX10_copy 7 = .ok (.iload_n 3, 1) := by decide +kernel
theorem dX10_copy_8 : decode cX10_copy 8 = .ok (.invokestatic 363, 3) := by decide +kernel
theorem dX10_copy_11 : decode cX10_copy 11 = .ok (.ifCond .ne 6, 3) := by decide +kernel
theorem dX10_copy_14 : decode cX10_copy 14 = .ok (.ldc 84, 2) := by decide +kernel
theorem dX10_copy_16 : decode cX10_copy 16 = .ok (.ireturn, 1) := by decide +kernel
theorem dX10_copy_17 : decode cX10_copy 17 = .ok (.aload_n 0, 1) := by decide +kernel
theorem dX10_copy_18 : decode cX10_copy 18 = .ok (.getfield 19, 3) := by decide +kernel
theorem dX10_copy_21 : decode cX10_copy 21 = .ok (.iload_n 1, 1) := by decide +kernel
theorem dX10_copy_22 : decode cX10_copy 22 = .ok (.iaload, 1) := by decide +kernel
theorem dX10_copy_23 : decode cX10_copy 23 = .ok (.ifCond .lt 12, 3) := by decide +kernel
theorem dX10_copy_26 : decode cX10_copy 26 = .ok (.aload_n 0, 1) := by decide +kernel
theorem dX10_copy_27 : decode cX10_copy 27 = .ok (.getfield 19, 3) := by decide +kernel
theorem dX10_copy_30 : decode cX10_copy 30 = .ok (.iload_n 3, 1) := by decide +kernel
theorem dX10_copy_31 : decode cX10_copy 31 = .ok (.iaload, 1) := by decide +kernel
theorem dX10_copy_32 : decode cX10_copy 32 = .ok (.ifCond .ge 7, 3) := by decide +kernel
theorem dX10_copy_35 : decode cX10_copy 35 = .ok (.ldc_w 369, 3) := by decide +kernel
theorem dX10_copy_38 : decode cX10_copy 38 = .ok (.ireturn, 1) := by decide +kernel
theorem dX10_copy_39 : decode cX10_copy 39 = .ok (.aload_n 0, 1) := by decide +kernel
theorem dX10_copy_40 : decode cX10_copy 40 = .ok (.getfield 19, 3) := by decide +kernel
theorem dX10_copy_43 : decode cX10_copy 43 = .ok (.iload_n 1, 1) := by decide +kernel
theorem dX10_copy_44 : decode cX10_copy 44 = .ok (.iaload, 1) := by decide +kernel
theorem dX10_copy_45 : decode cX10_copy 45 = .ok (.aload_n 0, 1) := by decide +kernel
theorem dX10_copy_46 : decode cX10_copy 46 = .ok (.getfield 19, 3) := by decide +kernel
theorem dX10_copy_49 : decode cX10_copy 49 = .ok (.iload_n 3, 1) := by decide +kernel
theorem dX10_copy_50 : decode cX10_copy 50 = .ok (.iaload, 1) := by decide +kernel
theorem dX10_copy_51 : decode cX10_copy 51 = .ok (.if_icmp .eq 6, 3) := by decide +kernel
theorem dX10_copy_54 : decode cX10_copy 54 = .ok (.ldc 154, 2) := by decide +kernel
theorem dX10_copy_56 : decode cX10_copy 56 = .ok (.ireturn, 1) := by decide +kernel
theorem dX10_copy_57 : decode cX10_copy 57 = .ok (.iload_n 2, 1) := by decide +kernel
theorem dX10_copy_58 : decode cX10_copy 58 = .ok (.ifCond .lt 48, 3) := by decide +kernel
theorem dX10_copy_61 : decode cX10_copy 61 = .ok (.iload 4, 2) := by decide +kernel
theorem dX10_copy_63 : decode cX10_copy 63 = .ok (.ifCond .lt 43, 3) := by decide +kernel
theorem dX10_copy_66 : decode cX10_copy 66 = .ok (.iload 5, 2) := by decide +kernel
theorem dX10_copy_68 : decode cX10_copy 68 = .ok (.ifCond .lt 38, 3) := by decide +kernel
theorem dX10_copy_71 : decode cX10_copy 71 = .ok (.iload_n 2, 1) := by decide +kernel
theorem dX10_copy_72 : decode cX10_copy 72 = .ok (.i2l, 1) := by decide +kernel
theorem dX10_copy_73 : decode cX10_copy 73 = .ok (.iload 5, 2) := by decide +kernel
theorem dX10_copy_75 : decode cX10_copy 75 = .ok (.i2l, 1) := by decide +kernel
theorem dX10_copy_76 : decode cX10_copy 76 = .ok (.ladd, 1) := by decide +kernel
theorem dX10_copy_77 : decode cX10_copy 77 = .ok (.aload_n 0, 1) := by decide +kernel
theorem dX10_copy_78 : decode cX10_copy 78 = .ok (.getfield 22, 3) := by decide +kernel
theorem dX10_copy_81 : decode cX10_copy 81 = .ok (.iload_n 1, 1) := by decide +kernel
theorem dX10_copy_82 : decode cX10_copy 82 = .ok (.iaload, 1) := by decide +kernel
theorem dX10_copy_83 : decode cX10_copy 83 = .ok (.i2l, 1) := by decide +kernel
theorem dX10_copy_84 : decode cX10_copy 84 = .ok (.lcmp, 1) := by decide +kernel
theorem dX10_copy_85 : decode cX10_copy 85 = .ok (.ifCond .gt 21, 3) := by decide +kernel
theorem dX10_copy_88 : decode cX10_copy 88 = .ok (.iload 4, 2) := by decide +kernel
theorem dX10_copy_90 : decode cX10_copy 90 = .ok (.i2l, 1) := by decide +kernel
theorem dX10_copy_91 : decode cX10_copy 91 = .ok (.iload 5, 2) := by decide +kernel
theorem dX10_copy_93 : decode cX10_copy 93 = .ok (.i2l, 1) := by decide +kernel
theorem dX10_copy_94 : decode cX10_copy 94 = .ok (.ladd, 1) := by decide +kernel
theorem dX10_copy_95 : decode cX10_copy 95 = .ok (.aload_n 0, 1) := by decide +kernel
theorem dX10_copy_96 : decode cX10_copy 96 = .ok (.getfield 22, 3) := by decide +kernel
theorem dX10_copy_99 : decode cX10_copy 99 = .ok (.iload_n 3, 1) := by decide +kernel
theorem dX10_copy_100 : decode cX10_copy 100 = .ok (.iaload, 1) := by decide +kernel
theorem dX10_copy_101 : decode cX10_copy 101 = .ok (.i2l, 1) := by decide +kernel
theorem dX10_copy_102 : decode cX10_copy 102 = .ok (.lcmp, 1) := by decide +kernel
theorem dX10_copy_103 : decode cX10_copy 103 = .ok (.ifCond .le 7, 3) := by decide +kernel
theorem dX10_copy_106 : decode cX10_copy 106 = .ok (.ldc_w 370, 3) := by decide +kernel
theorem dX10_copy_109 : decode cX10_copy 109 = .ok (.ireturn, 1) := by decide +kernel
theorem dX10_copy_110 : decode cX10_copy 110 = .ok (.iconst 0, 1) := by decide +kernel
theorem dX10_copy_111 : decode cX10_copy 111 = .ok (.istore 6, 2) := by decide +kernel
theorem dX10_copy_113 : decode cX10_copy 113 = .ok (.iload 6, 2) := by decide +kernel
theorem dX10_copy_115 : decode cX10_copy 115 = .ok (.iload 5, 2) := by decide +kernel
theorem dX10_copy_117 : decode cX10_copy 117 = .ok (.if_icmp .ge 30, 3) := by decide +kernel
theorem dX10_copy_120 : decode cX10_copy 120 = .ok (.aload_n 0, 1) := by decide +kernel
theorem dX10_copy_121 : decode cX10_copy 121 = .ok (.getfield 64, 3) := by decide +kernel
theorem dX10_copy_124 : decode cX10_copy 124 = .ok (.iload 6, 2) := by decide +kernel
theorem dX10_copy_126 : decode cX10_copy 126 = .ok (.aload_n 0, 1) := by decide +kernel
theorem dX10_copy_127 : decode cX10_copy 127 = .ok (.getfield 25, 3) := by decide +kernel
theorem dX10_copy_130 : decode cX10_copy 130 = .ok (.bipush 24, 2) := by decide +kernel
theorem dX10_copy_132 : decode cX10_copy 132 = .ok (.iload_n 1, 1) := by decide +kernel
theorem dX10_copy_133 : decode cX10_copy 133 = .ok (.imul, 1) := by decide +kernel
theorem dX10_copy_134 : decode cX10_copy 134 = .ok (.iload_n 2, 1) := by decide +kernel
theorem dX10_copy_135 : decode cX10_copy 135 = .ok (.iadd, 1) := by decide +kernel
theorem dX10_copy_136 : decode cX10_copy 136 = .ok (.iload 6, 2) := by decide +kernel
theorem dX10_copy_138 : decode cX10_copy 138 = .ok (.iadd, 1) := by decide +kernel
theorem dX10_copy_139 : decode cX10_copy 139 = .ok (.iaload, 1) := by decide +kernel
theorem dX10_copy_140 : decode cX10_copy 140 = .ok (.iastore, 1) := by decide +kernel
theorem dX10_copy_141 : decode cX10_copy 141 = .ok (.iinc 6 1, 3) := by decide +kernel
theorem dX10_copy_144 : decode cX10_copy 144 = .ok (.goto (-31), 3) := by decide +kernel
theorem dX10_copy_147 : decode cX10_copy 147 = .ok (.iconst 0, 1) := by decide +kernel
theorem dX10_copy_148 : decode cX10_copy 148 = .ok (.istore 6, 2) := by decide +kernel
theorem dX10_copy_150 : decode cX10_copy 150 = .ok (.iload 6, 2) := by decide +kernel
theorem dX10_copy_152 : decode cX10_copy 152 = .ok (.iload 5, 2) := by decide +kernel
theorem dX10_copy_154 : decode cX10_copy 154 = .ok (.if_icmp .ge 31, 3) := by decide +kernel
theorem dX10_copy_157 : decode cX10_copy 157 = .ok (.aload_n 0, 1) := by decide +kernel
theorem dX10_copy_158 : decode cX10_copy 158 = .ok (.getfield 25, 3) := by decide +kernel
theorem dX10_copy_161 : decode cX10_copy 161 = .ok (.bipush 24, 2) := by decide +kernel
theorem dX10_copy_163 : decode cX10_copy 163 = .ok (.iload_n 3, 1) := by decide +kernel
theorem dX10_copy_164 : decode cX10_copy 164 = .ok (.imul, 1) := by decide +kernel
theorem dX10_copy_165 : decode cX10_copy 165 = .ok (.iload 4, 2) := by decide +kernel
theorem dX10_copy_167 : decode cX10_copy 167 = .ok (.iadd, 1) := by decide +kernel
theorem dX10_copy_168 : decode cX10_copy 168 = .ok (.iload 6, 2) := by decide +kernel
theorem dX10_copy_170 : decode cX10_copy 170 = .ok (.iadd, 1) := by decide +kernel
theorem dX10_copy_171 : decode cX10_copy 171 = .ok (.aload_n 0, 1) := by decide +kernel
theorem dX10_copy_172 : decode cX10_copy 172 = .ok (.getfield 64, 3) := by decide +kernel
theorem dX10_copy_175 : decode cX10_copy 175 = .ok (.iload 6, 2) := by decide +kernel
theorem dX10_copy_177 : decode cX10_copy 177 = .ok (.iaload, 1) := by decide +kernel
theorem dX10_copy_178 : decode cX10_copy 178 = .ok (.iastore, 1) := by decide +kernel
theorem dX10_copy_179 : decode cX10_copy 179 = .ok (.iinc 6 1, 3) := by decide +kernel
theorem dX10_copy_182 : decode cX10_copy 182 = .ok (.goto (-32), 3) := by decide +kernel
theorem dX10_copy_185 : decode cX10_copy 185 = .ok (.iload 5, 2) := by decide +kernel
theorem dX10_copy_187 : decode cX10_copy 187 = .ok (.ireturn, 1) := by decide +kernel
theorem dX10_isSlot_0 : decode cX10_isSlot 0 = .ok (.iload_n 0, 1) := by decide +kernel
theorem dX10_isSlot_1 : decode cX10_isSlot 1 = .ok (.i2l, 1) := by decide +kernel
theorem dX10_isSlot_2 : decode cX10_isSlot 2 = .ok (.lconst 0, 1) := by decide +kernel
theorem dX10_isSlot_3 : decode cX10_isSlot 3 = .ok (.ldc2_w 78, 3) := by decide +kernel
theorem dX10_isSlot_6 : decode cX10_isSlot 6 = .ok (.invokestatic 74, 3) := by decide +kernel
theorem dX10_isSlot_9 : decode cX10_isSlot 9 = .ok (.ireturn, 1) := by decide +kernel
theorem dX10_lay_0 : decode cX10_lay 0 = .ok (.iload_n 2, 1) := by decide +kernel
theorem dX10_lay_1 : decode cX10_lay 1 = .ok (.ifCond .eq 33, 3) := by decide +kernel
theorem dX10_lay_4 : decode cX10_lay 4 = .ok (.iload_n 2, 1) := by decide +kernel
theorem dX10_lay_5 : decode cX10_lay 5 = .ok (.iconst 3, 1) := by decide +kernel
theorem dX10_lay_6 : decode cX10_lay 6 = .ok (.if_icmp .eq 28, 3) := by decide +kernel
theorem dX10_lay_9 : decode cX10_lay 9 = .ok (.iload_n 2, 1) := by decide +kernel
theorem dX10_lay_10 : decode cX10_lay 10 = .ok (.iconst 1, 1) := by decide +kernel
theorem dX10_lay_11 : decode cX10_lay 11 = .ok (.if_icmp .ne 11, 3) := by decide +kernel
theorem dX10_lay_14 : decode cX10_lay 14 = .ok (.aload_n 0, 1) := by decide +kernel
theorem dX10_lay_15 : decode cX10_lay 15 = .ok (.iload_n 3, 1) := by decide +kernel
theorem dX10_lay_16 : decode cX10_lay 16 = .ok (.invokevirtual 102, 3) := by decide +kernel
theorem dX10_lay_19 : decode cX10_lay 19 = .ok (.ifCond .ne 15, 3) := by decide +kernel
theorem dX10_lay_22 : decode cX10_lay 22 = .ok (.iload_n 2, 1) := by decide +kernel
theorem dX10_lay_23 : decode cX10_lay 23 = .ok (.iconst 2, 1) := by decide +kernel
theorem dX10_lay_24 : decode cX10_lay 24 = .ok (.if_icmp .ne 14, 3) := by decide +kernel
theorem dX10_lay_27 : decode cX10_lay 27 = .ok (.iload_n 3, 1) := by decide +kernel
theorem dX10_lay_28 : decode cX10_lay 28 = .ok (.invokestatic 363, 3) := by decide +kernel
theorem dX10_lay_31 : decode cX10_lay 31 = .ok (.ifCond .eq 7, 3) := by decide +kernel
theorem dX10_lay_34 : decode cX10_lay 34 = .ok (.iconst 1, 1) := by decide +kernel
theorem dX10_lay_35 : decode cX10_lay 35 = .ok (.goto 4, 3) := by decide +kernel
theorem dX10_lay_38 : decode cX10_lay 38 = .ok (.iconst 0, 1) := by decide +kernel
theorem dX10_lay_39 : decode cX10_lay 39 = .ok (.istore 4, 2) := by decide +kernel
theorem dX10_lay_41 : decode cX10_lay 41 = .ok (.iload_n 1, 1) := by decide +kernel
theorem dX10_lay_42 : decode cX10_lay 42 = .ok (.invokestatic 375, 3) := by decide +kernel
theorem dX10_lay_45 : decode cX10_lay 45 = .ok (.ifCond .eq 8, 3) := by decide +kernel
theorem dX10_lay_48 : decode cX10_lay 48 = .ok (.iload 4, 2) := by decide +kernel
theorem dX10_lay_50 : decode cX10_lay 50 = .ok (.ifCond .ne 6, 3) := by decide +kernel
theorem dX10_lay_53 : decode cX10_lay 53 = .ok (.ldc 84, 2) := by decide +kernel
theorem dX10_lay_55 : decode cX10_lay 55 = .ok (.ireturn, 1) := by decide +kernel
theorem dX10_lay_56 : decode cX10_lay 56 = .ok (.iload_n 2, 1) := by decide +kernel
theorem dX10_lay_57 : decode cX10_lay 57 = .ok (.iconst 2, 1) := by decide +kernel
theorem dX10_lay_58 : decode cX10_lay 58 = .ok (.if_icmp .ne 16, 3) := by decide +kernel
theorem dX10_lay_61 : decode cX10_lay 61 = .ok (.aload_n 0, 1) := by decide +kernel
theorem dX10_lay_62 : decode cX10_lay 62 = .ok (.getfield 19, 3) := by decide +kernel
theorem dX10_lay_65 : decode cX10_lay 65 = .ok (.iload_n 3, 1) := by decide +kernel
theorem dX10_lay_66 : decode cX10_lay 66 = .ok (.iaload, 1) := by decide +kernel
theorem dX10_lay_67 : decode cX10_lay 67 = .ok (.ifCond .ge 7, 3) := by decide +kernel
theorem dX10_lay_70 : decode cX10_lay 70 = .ok (.ldc_w 369, 3) := by decide +kernel
theorem dX10_lay_73 : decode cX10_lay 73 = .ok (.ireturn, 1) := by decide +kernel
theorem dX10_lay_74 : decode cX10_lay 74 = .ok (.aload_n 0, 1) := by decide +kernel
theorem dX10_lay_75 : decode cX10_lay 75 = .ok (.getfield 28, 3) := by decide +kernel
theorem dX10_lay_78 : decode cX10_lay 78 = .ok (.iload_n 1, 1) := by decide +kernel
theorem dX10_lay_79 : decode cX10_lay 79 = .ok (.iaload, 1) := by decide +kernel
theorem dX10_lay_80 : decode cX10_lay 80 = .ok (.istore 5, 2) := by decide +kernel
theorem dX10_lay_82 : decode cX10_lay 82 = .ok (.aload_n 0, 1) := by decide +kernel
theorem dX10_lay_83 : decode cX10_lay 83 = .ok (.getfield 28, 3) := by decide +kernel
theorem dX10_lay_86 : decode cX10_lay 86 = .ok (.iload_n 1, 1) := by decide +kernel
theorem dX10_lay_87 : decode cX10_lay 87 = .ok (.iload_n 2, 1) := by decide +kernel
theorem dX10_lay_88 : decode cX10_lay 88 = .ok (.iastore, 1) := by decide +kernel
theorem dX10_lay_89 : decode cX10_lay 89 = .ok (.aload_n 0, 1) := by decide +kernel
theorem dX10_lay_90 : decode cX10_lay 90 = .ok (.getfield 31, 3) := by decide +kernel
theorem dX10_lay_93 : decode cX10_lay 93 = .ok (.iload_n 1, 1) := by decide +kernel
theorem dX10_lay_94 : decode cX10_lay 94 = .ok (.iload_n 2, 1) := by decide +kernel
theorem dX10_lay_95 : decode cX10_lay 95 = .ok (.iconst 1, 1) := by decide +kernel
theorem dX10_lay_96 : decode cX10_lay 96 = .ok (.if_icmp .ne 18, 3) := by decide +kernel
theorem dX10_lay_99 : decode cX10_lay 99 = .ok (.aload_n 0, 1) := by decide +kernel
theorem dX10_lay_100 : decode cX10_lay 100 = .ok (.getfield 7, 3) := by decide +kernel
theorem dX10_lay_103 : decode cX10_lay 103 = .ok (.aload_n 0, 1) := by decide +kernel
theorem dX10_lay_104 : decode cX10_lay 104 = .ok (.iload_n 3, 1) := by decide +kernel
theorem dX10_lay_105 : decode cX10_lay 105 = .ok (.invokevirtual 87, 3) := by decide +kernel
theorem dX10_lay_108 : decode cX10_lay 108 = .ok (.iconst 1, 1) := by decide +kernel
theorem dX10_lay_109 : decode cX10_lay 109 = .ok (.iadd, 1) := by decide +kernel
theorem dX10_lay_110 : decode cX10_lay 110 = .ok (.iaload, 1) := by decide +kernel
theorem dX10_lay_111 : decode cX10_lay 111 = .ok (.goto 4, 3) := by decide +kernel
theorem dX10_lay_114 : decode cX10_lay 114 = .ok (.iload_n 3, 1) := by decide +kernel
theorem dX10_lay_115 : decode cX10_lay 115 = .ok (.iastore, 1) := by decide +kernel
theorem dX10_lay_116 : decode cX10_lay 116 = .ok (.aload_n 0, 1) := by decide +kernel
theorem dX10_lay_117 : decode cX10_lay 117 = .ok (.getfield 34, 3) := by decide +kernel
theorem dX10_lay_120 : decode cX10_lay 120 = .ok (.iload_n 1, 1) := by decide +kernel
theorem dX10_lay_121 : decode cX10_lay 121 = .ok (.iload_n 2, 1) := by decide +kernel
theorem dX10_lay_122 : decode cX10_lay 122 = .ok (.iconst 1, 1) := by decide +kernel
theorem dX10_lay_123 : decode cX10_lay 123 = .ok (.if_icmp .ne 18, 3) := by decide +kernel
theorem dX10_lay_126 : decode cX10_lay 126 = .ok (.aload_n 0, 1) := by decide +kernel
theorem dX10_lay_127 : decode cX10_lay 127 = .ok (.getfield 7, 3) := by decide +kernel
theorem dX10_lay_130 : decode cX10_lay 130 = .ok (.aload_n 0, 1) := by decide +kernel
theorem dX10_lay_131 : decode cX10_lay 131 = .ok (.iload_n 3, 1) := by decide +kernel
theorem dX10_lay_132 : decode cX10_lay 132 = .ok (.invokevirtual 87, 3) := by decide +kernel
theorem dX10_lay_135 : decode cX10_lay 135 = .ok (.iconst 3, 1) := by decide +kernel
theorem dX10_lay_136 : decode cX10_lay 136 = .ok (.iadd, 1) := by decide +kernel
theorem dX10_lay_137 : decode cX10_lay 137 = .ok (.iaload, 1) := by decide +kernel
theorem dX10_lay_138 : decode cX10_lay 138 = .ok (.goto 4, 3) := by decide +kernel
theorem dX10_lay_141 : decode cX10_lay 141 = .ok (.iconst 0, 1) := by decide +kernel
theorem dX10_lay_142 : decode cX10_lay 142 = .ok (.iastore, 1) := by decide +kernel
theorem dX10_lay_143 : decode cX10_lay 143 = .ok (.iload_n 2, 1) := by decide +kernel
theorem dX10_lay_144 : decode cX10_lay 144 = .ok (.iconst 2, 1) := by decide +kernel
theorem dX10_lay_145 : decode cX10_lay 145 = .ok (.if_icmp .ne 55, 3) := by decide +kernel
theorem dX10_lay_148 : decode cX10_lay 148 = .ok (.aload_n 0, 1) := by decide +kernel
theorem dX10_lay_149 : decode cX10_lay 149 = .ok (.getfield 37, 3) := by decide +kernel
theorem dX10_lay_152 : decode cX10_lay 152 = .ok (.iload_n 1, 1) := by decide +kernel
theorem dX10_lay_153 : decode cX10_lay 153 = .ok (.aload_n 0, 1) := by decide +kernel
theorem dX10_lay_154 : decode cX10_lay 154 = .ok (.getfield 22, 3) := by decide +kernel
theorem dX10_lay_157 : decode cX10_lay 157 = .ok (.iload_n 3, 1) := by decide +kernel
theorem dX10_lay_158 : decode cX10_lay 158 = .ok (.iaload, 1) := by decide +kernel
theorem dX10_lay_159 : decode cX10_lay 159 = .ok (.iastore, 1) := by decide +kernel
theorem dX10_lay_160 : decode cX10_lay 160 = .ok (.iconst 0, 1) := by decide +kernel
theorem dX10_lay_161 : decode cX10_lay 161 = .ok (.istore 6, 2) := by decide +kernel
theorem dX10_lay_163 : decode cX10_lay 163 = .ok (.iload 6, 2) := by decide +kernel
theorem dX10_lay_165 : decode cX10_lay 165 = .ok (.bipush 24, 2) := by decide +kernel
theorem dX10_lay_167 : decode cX10_lay 167 = .ok (.if_icmp .ge 33, 3) := by decide +kernel
theorem dX10_lay_170 : decode cX10_lay 170 = .ok (.aload_n 0, 1) := by decide +kernel
theorem dX10_lay_171 : decode cX10_lay 171 = .ok (.getfield 40, 3) := by decide +kernel
theorem dX10_lay_174 : decode cX10_lay 174 = .ok (.bipush 24, 2) := by decide +kernel
theorem dX10_lay_176 : decode cX10_lay 176 = .ok (.iload_n 1, 1) := by decide +kernel
theorem dX10_lay_177 : decode cX10_lay 177 = .ok (.imul, 1) := by decide +kernel
theorem dX10_lay_178 : decode cX10_lay 178 = .ok (.iload 6, 2) := by decide +kernel
theorem dX10_lay_180 : decode cX10_lay 180 = .ok (.iadd, 1) := by decide +kernel
theorem dX10_lay_181 : decode cX10_lay 181 = .ok (.aload_n 0, 1) := by decide +kernel
theorem dX10_lay_182 : decode cX10_lay 182 = .ok (.getfield 25, 3) := by decide +kernel
theorem dX10_lay_185 : decode cX10_lay 185 = .ok (.bipush 24, 2) := by decide +kernel
theorem dX10_lay_187 : decode cX10_lay 187 = .ok (.iload_n 3, 1) := by decide +kernel
theorem dX10_lay_188 : decode cX10_lay 188 = .ok (.imul, 1) := by decide +kernel
theorem dX10_lay_189 : decode cX10_lay 189 = .ok (.iload 6, 2) := by decide +kernel
theorem dX10_lay_191 : decode cX10_lay 191 = .ok (.iadd, 1) := by decide +kernel
theorem dX10_lay_192 : decode cX10_lay 192 = .ok (.iaload, 1) := by decide +kernel
theorem dX10_lay_193 : decode cX10_lay 193 = .ok (.iastore, 1) := by decide +kernel
theorem dX10_lay_194 : decode cX10_lay 194 = .ok (.iinc 6 1, 3) := by decide +kernel
theorem dX10_lay_197 : decode cX10_lay 197 = .ok (.goto (-34), 3) := by decide +kernel
theorem dX10_lay_200 : decode cX10_lay 200 = .ok (.iload 5, 2) := by decide +kernel
theorem dX10_lay_202 : decode cX10_lay 202 = .ok (.ireturn, 1) := by decide +kernel
theorem dX10_ask_0 : decode cX10_ask 0 = .ok (.iload_n 1, 1) := by decide +kernel
theorem dX10_ask_1 : decode cX10_ask 1 = .ok (.invokestatic 375, 3) := by decide +kernel
theorem dX10_ask_4 : decode cX10_ask 4 = .ok (.ifCond .eq 15, 3) := by decide +kernel
theorem dX10_ask_7 : decode cX10_ask 7 = .ok (.iload_n 2, 1) := by decide +kernel
theorem dX10_ask_8 : decode cX10_ask 8 = .ok (.i2l, 1) := by decide +kernel
theorem dX10_ask_9 : decode cX10_ask 9 = .ok (.lconst 0, 1) := by decide +kernel
theorem dX10_ask_10 : decode cX10_ask 10 = .ok (.ldc2_w 95, 3) := by decide +kernel
theorem dX10_ask_13 : decode cX10_ask 13 = .ok (.invokestatic 74, 3) := by decide +kernel
theorem dX10_ask_16 : decode cX10_ask 16 = .ok (.ifCond .ne 6, 3) := by decide +kernel
theorem dX10_ask_19 : decode cX10_ask 19 = .ok (.ldc 84, 2) := by decide +kernel
theorem dX10_ask_21 : decode cX10_ask 21 = .ok (.ireturn, 1) := by decide +kernel
theorem dX10_ask_22 : decode cX10_ask 22 = .ok (.aload_n 0, 1) := by decide +kernel
theorem dX10_ask_23 : decode cX10_ask 23 = .ok (.getfield 28, 3) := by decide +kernel
theorem dX10_ask_26 : decode cX10_ask 26 = .ok (.iload_n 1, 1) := by decide +kernel
theorem dX10_ask_27 : decode cX10_ask 27 = .ok (.iaload, 1) := by decide +kernel
theorem dX10_ask_28 : decode cX10_ask 28 = .ok (.ifCond .ne 7, 3) := by decide +kernel
theorem dX10_ask_31 : decode cX10_ask 31 = .ok (.ldc_w 369, 3) := by decide +kernel
theorem dX10_ask_34 : decode cX10_ask 34 = .ok (.ireturn, 1) := by decide +kernel
theorem dX10_ask_35 : decode cX10_ask 35 = .ok (.aload_n 0, 1) := by decide +kernel
theorem dX10_ask_36 : decode cX10_ask 36 = .ok (.getfield 28, 3) := by decide +kernel
theorem dX10_ask_39 : decode cX10_ask 39 = .ok (.iload_n 1, 1) := by decide +kernel
theorem dX10_ask_40 : decode cX10_ask 40 = .ok (.iaload, 1) := by decide +kernel
theorem dX10_ask_41 : decode cX10_ask 41 = .ok (.iconst 1, 1) := by decide +kernel
theorem dX10_ask_42 : decode cX10_ask 42 = .ok (.if_icmp .ne 34, 3) := by decide +kernel
theorem dX10_ask_45 : decode cX10_ask 45 = .ok (.aload_n 0, 1) := by decide +kernel
theorem dX10_ask_46 : decode cX10_ask 46 = .ok (.getfield 31, 3) := by decide +kernel
theorem dX10_ask_49 : decode cX10_ask 49 = .ok (.iload_n 1, 1) := by decide +kernel
theorem dX10_ask_50 : decode cX10_ask 50 = .ok (.iaload, 1) := by decide +kernel
theorem dX10_ask_51 : decode cX10_ask 51 = .ok (.iload_n 2, 1) := by decide +kernel
theorem dX10_ask_52 : decode cX10_ask 52 = .ok (.invokestatic 151, 3) := by decide +kernel
theorem dX10_ask_55 : decode cX10_ask 55 = .ok (.ifCond .eq 21, 3) := by decide +kernel
theorem dX10_ask_58 : decode cX10_ask 58 = .ok (.aload_n 0, 1) := by decide +kernel
theorem dX10_ask_59 : decode cX10_ask 59 = .ok (.getfield 31, 3) := by decide +kernel
theorem dX10_ask_62 : decode cX10_ask 62 = .ok (.iload_n 1, 1) := by decide +kernel
theorem dX10_ask_63 : decode cX10_ask 63 = .ok (.iaload, 1) := by decide +kernel
theorem dX10_ask_64 : decode cX10_ask 64 = .ok (.aload_n 0, 1) := by decide +kernel
theorem dX10_ask_65 : decode cX10_ask 65 = .ok (.getfield 34, 3) := by decide +kernel
theorem dX10_ask_68 : decode cX10_ask 68 = .ok (.iload_n 1, 1) := by decide +kernel
theorem dX10_ask_69 : decode cX10_ask 69 = .ok (.iaload, 1) := by decide +kernel
theorem dX10_ask_70 : decode cX10_ask 70 = .ok (.invokestatic 148, 3) := by decide +kernel
theorem dX10_ask_73 : decode cX10_ask 73 = .ok (.goto 5, 3) := by decide +kernel
theorem dX10_ask_76 : decode cX10_ask 76 = .ok (.ldc 154, 2) := by decide +kernel
theorem dX10_ask_78 : decode cX10_ask 78 = .ok (.ireturn, 1) := by decide +kernel
theorem dX10_item_0 : decode cX10_item 0 = .ok (.iload_n 1, 1) := by decide +kernel
theorem dX10_item_1 : decode cX10_item 1 = .ok (.invokestatic 375, 3) := by decide +kernel
theorem dX10_item_4 : decode cX10_item 4 = .ok (.ifCond .ne 6, 3) := by decide +kernel
theorem dX10_item_7 : decode cX10_item 7 = .ok (.ldc 84, 2) := by decide +kernel
theorem dX10_item_9 : decode cX10_item 9 = .ok (.ireturn, 1) := by decide +kernel
theorem dX10_item_10 : decode cX10_item 10 = .ok (.aload_n 0, 1) := by decide +kernel
theorem dX10_item_11 : decode cX10_item 11 = .ok (.getfield 28, 3) := by decide +kernel
theorem dX10_item_14 : decode cX10_item 14 = .ok (.iload_n 1, 1) := by decide +kernel
theorem dX10_item_15 : decode cX10_item 15 = .ok (.iaload, 1) := by decide +kernel
theorem dX10_item_16 : decode cX10_item 16 = .ok (.iconst 2, 1) := by decide +kernel
theorem dX10_item_17 : decode cX10_item 17 = .ok (.if_icmp .eq 21, 3) := by decide +kernel
theorem dX10_item_20 : decode cX10_item 20 = .ok (.aload_n 0, 1) := by decide +kernel
theorem dX10_item_21 : decode cX10_item 21 = .ok (.getfield 28, 3) := by decide +kernel
theorem dX10_item_24 : decode cX10_item 24 = .ok (.iload_n 1, 1) := by decide +kernel
theorem dX10_item_25 : decode cX10_item 25 = .ok (.iaload, 1) := by decide +kernel
theorem dX10_item_26 : decode cX10_item 26 = .ok (.ifCond .ne 9, 3) := by decide +kernel
theorem dX10_item_29 : decode cX10_item 29 = .ok (.ldc_w 369, 3) := by decide +kernel
theorem dX10_item_32 : decode cX10_item 32 = .ok (.goto 5, 3) := by decide +kernel
theorem dX10_item_35 : decode cX10_item 35 = .ok (.ldc 154, 2) := by decide +kernel
theorem dX10_item_37 : decode cX10_item 37 = .ok (.ireturn, 1) := by decide +kernel
theorem dX10_item_38 : decode cX10_item 38 = .ok (.iload_n 2, 1) := by decide +kernel
theorem dX10_item_39 : decode cX10_item 39 = .ok (.i2l, 1) := by decide +kernel
theorem dX10_item_40 : decode cX10_item 40 = .ok (.lconst 0, 1) := by decide +kernel
theorem dX10_item_41 : decode cX10_item 41 = .ok (.aload_n 0, 1) := by decide +kernel
theorem dX10_item_42 : decode cX10_item 42 = .ok (.getfield 37, 3) := by decide +kernel
theorem dX10_item_45 : decode cX10_item 45 = .ok (.iload_n 1, 1) := by decide +kernel
theorem dX10_item_46 : decode cX10_item 46 = .ok (.iaload, 1) := by decide +kernel
theorem dX10_item_47 : decode cX10_item 47 = .ok (.iconst 1, 1) := by decide +kernel
theorem dX10_item_48 : decode cX10_item 48 = .ok (.isub, 1) := by decide +kernel
theorem dX10_item_49 : decode cX10_item 49 = .ok (.i2l, 1) := by decide +kernel
theorem dX10_item_50 : decode cX10_item 50 = .ok (.invokestatic 74, 3) := by decide +kernel
theorem dX10_item_53 : decode cX10_item 53 = .ok (.ifCond .ne 7, 3) := by decide +kernel
theorem dX10_item_56 : decode cX10_item 56 = .ok (.ldc_w 370, 3) := by decide +kernel
theorem dX10_item_59 : decode cX10_item 59 = .ok (.ireturn, 1) := by decide +kernel
theorem dX10_item_60 : decode cX10_item 60 = .ok (.aload_n 0, 1) := by decide +kernel
theorem dX10_item_61 : decode cX10_item 61 = .ok (.getfield 40, 3) := by decide +kernel
theorem dX10_item_64 : decode cX10_item 64 = .ok (.bipush 24, 2) := by decide +kernel
theorem dX10_item_66 : decode cX10_item 66 = .ok (.iload_n 1, 1) := by decide +kernel
theorem dX10_item_67 : decode cX10_item 67 = .ok (.imul, 1) := by decide +kernel
theorem dX10_item_68 : decode cX10_item 68 = .ok (.iload_n 2, 1) := by decide +kernel
theorem dX10_item_69 : decode cX10_item 69 = .ok (.iadd, 1) := by decide +kernel
theorem dX10_item_70 : decode cX10_item 70 = .ok (.iaload, 1) := by decide +kernel
theorem dX10_item_71 : decode cX10_item 71 = .ok (.istore_n 3, 1) := by decide +kernel
theorem dX10_item_72 : decode cX10_item 72 = .ok (.iload_n 3, 1) := by decide +kernel
theorem dX10_item_73 : decode cX10_item 73 = .ok (.ldc 73, 2) := by decide +kernel
theorem dX10_item_75 : decode cX10_item 75 = .ok (.if_icmp .ne 8, 3) := by decide +kernel
theorem dX10_item_78 : decode cX10_item 78 = .ok (.ldc 154, 2) := by decide +kernel
theorem dX10_item_80 : decode cX10_item 80 = .ok (.goto 4, 3) := by decide +kernel
theorem dX10_item_83 : decode cX10_item 83 = .ok (.iload_n 3, 1) := by decide +kernel
theorem dX10_item_84 : decode cX10_item 84 = .ok (.ireturn, 1) := by decide +kernel
theorem dX10_rest_0 : decode cX10_rest 0 = .ok (.iload_n 1, 1) := by decide +kernel
theorem dX10_rest_1 : decode cX10_rest 1 = .ok (.invokestatic 375, 3) := by decide +kernel
theorem dX10_rest_4 : decode cX10_rest 4 = .ok (.ifCond .ne 6, 3) := by decide +kernel
theorem dX10_rest_7 : decode cX10_rest 7 = .ok (.ldc 84, 2) := by decide +kernel
theorem dX10_rest_9 : decode cX10_rest 9 = .ok (.ireturn, 1) := by decide +kernel
theorem dX10_rest_10 : decode cX10_rest 10 = .ok (.aload_n 0, 1) := by decide +kernel
theorem dX10_rest_11 : decode cX10_rest 11 = .ok (.getfield 28, 3) := by decide +kernel
theorem dX10_rest_14 : decode cX10_rest 14 = .ok (.iload_n 1, 1) := by decide +kernel
theorem dX10_rest_15 : decode cX10_rest 15 = .ok (.iaload, 1) := by decide +kernel
theorem dX10_rest_16 : decode cX10_rest 16 = .ok (.iconst 3, 1) := by decide +kernel
theorem dX10_rest_17 : decode cX10_rest 17 = .ok (.if_icmp .eq 21, 3) := by decide +kernel
theorem dX10_rest_20 : decode cX10_rest 20 = .ok (.aload_n 0, 1) := by decide +kernel
theorem dX10_rest_21 : decode cX10_rest 21 = .ok (.getfield 28, 3) := by decide +kernel
theorem dX10_rest_24 : decode cX10_rest 24 = .ok (.iload_n 1, 1) := by decide +kernel
theorem dX10_rest_25 : decode cX10_rest 25 = .ok (.iaload, 1) := by decide +kernel
theorem dX10_rest_26 : decode cX10_rest 26 = .ok (.ifCond .ne 9, 3) := by decide +kernel
theorem dX10_rest_29 : decode cX10_rest 29 = .ok (.ldc_w 369, 3) := by decide +kernel
theorem dX10_rest_32 : decode cX10_rest 32 = .ok (.goto 5, 3) := by decide +kernel
theorem dX10_rest_35 : decode cX10_rest 35 = .ok (.ldc 154, 2) := by decide +kernel
theorem dX10_rest_37 : decode cX10_rest 37 = .ok (.ireturn, 1) := by decide +kernel
theorem dX10_rest_38 : decode cX10_rest 38 = .ok (.iload_n 2, 1) := by decide +kernel
theorem dX10_rest_39 : decode cX10_rest 39 = .ok (.ifCond .ne 8, 3) := by decide +kernel
theorem dX10_rest_42 : decode cX10_rest 42 = .ok (.ldc 85, 2) := by decide +kernel
theorem dX10_rest_44 : decode cX10_rest 44 = .ok (.goto 11, 3) := by decide +kernel
theorem dX10_rest_47 : decode cX10_rest 47 = .ok (.aload_n 0, 1) := by decide +kernel
theorem dX10_rest_48 : decode cX10_rest 48 = .ok (.getfield 31, 3) := by decide +kernel
theorem dX10_rest_51 : decode cX10_rest 51 = .ok (.iload_n 1, 1) := by decide +kernel
theorem dX10_rest_52 : decode cX10_rest 52 = .ok (.iaload, 1) := by decide +kernel
theorem dX10_rest_53 : decode cX10_rest 53 = .ok (.iload_n 2, 1) := by decide +kernel
theorem dX10_rest_54 : decode cX10_rest 54 = .ok (.irem, 1) := by decide +kernel
theorem dX10_rest_55 : decode cX10_rest 55 = .ok (.ireturn, 1) := by decide +kernel
theorem dX10_tell_0 : decode cX10_tell 0 = .ok (.aload_n 0, 1) := by decide +kernel
theorem dX10_tell_1 : decode cX10_tell 1 = .ok (.getfield 378, 3) := by decide +kernel
theorem dX10_tell_4 : decode cX10_tell 4 = .ok (.bipush 60, 2) := by decide +kernel
theorem dX10_tell_6 : decode cX10_tell 6 = .ok (.if_icmp .ne 6, 3) := by decide +kernel
theorem dX10_tell_9 : decode cX10_tell 9 = .ok (.ldc 86, 2) := by decide +kernel
theorem dX10_tell_11 : decode cX10_tell 11 = .ok (.ireturn, 1) := by decide +kernel
theorem dX10_tell_12 : decode cX10_tell 12 = .ok (.aload_n 0, 1) := by decide +kernel
theorem dX10_tell_13 : decode cX10_tell 13 = .ok (.getfield 67, 3) := by decide +kernel
theorem dX10_tell_16 : decode cX10_tell 16 = .ok (.aload_n 0, 1) := by decide +kernel
theorem dX10_tell_17 : decode cX10_tell 17 = .ok (.getfield 378, 3) := by decide +kernel
theorem dX10_tell_20 : decode cX10_tell 20 = .ok (.iload_n 1, 1) := by decide +kernel
theorem dX10_tell_21 : decode cX10_tell 21 = .ok (.iastore, 1) := by decide +kernel
theorem dX10_tell_22 : decode cX10_tell 22 = .ok (.aload_n 0, 1) := by decide +kernel
theorem dX10_tell_23 : decode cX10_tell 23 = .ok (.dup, 1) := by decide +kernel
theorem dX10_tell_24 : decode cX10_tell 24 = .ok (.getfield 378, 3) := by decide +kernel
theorem dX10_tell_27 : decode cX10_tell 27 = .ok (.iconst 1, 1) := by decide +kernel
theorem dX10_tell_28 : decode cX10_tell 28 = .ok (.iadd, 1) := by decide +kernel
theorem dX10_tell_29 : decode cX10_tell 29 = .ok (.putfield 378, 3) := by decide +kernel
theorem dX10_tell_32 : decode cX10_tell 32 = .ok (.aload_n 0, 1) := by decide +kernel
theorem dX10_tell_33 : decode cX10_tell 33 = .ok (.getfield 378, 3) := by decide +kernel
theorem dX10_tell_36 : decode cX10_tell 36 = .ok (.ireturn, 1) := by decide +kernel
theorem dX10_setAside_0 : decode cX10_setAside 0 = .ok (.iconst 0, 1) := by decide +kernel
theorem dX10_setAside_1 : decode cX10_setAside 1 = .ok (.istore_n 3, 1) := by decide +kernel
theorem dX10_setAside_2 : decode cX10_setAside 2 = .ok (.iload_n 3, 1) := by decide +kernel
theorem dX10_setAside_3 : decode cX10_setAside 3 = .ok (.sipush 3510, 3) := by decide +kernel
theorem dX10_setAside_6 : decode cX10_setAside 6 = .ok (.if_icmp .ge 15, 3) := by decide +kernel
theorem dX10_setAside_9 : decode cX10_setAside 9 = .ok (.aload_n 2, 1) := by decide +kernel
theorem dX10_setAside_10 : decode cX10_setAside 10 = .ok (.iload_n 3, 1) := by decide +kernel
theorem dX10_setAside_11 : decode cX10_setAside 11 = .ok (.aload_n 1, 1) := by decide +kernel
theorem dX10_setAside_12 : decode cX10_setAside 12 = .ok (.iload_n 3, 1) := by decide +kernel
theorem dX10_setAside_13 : decode cX10_setAside 13 = .ok (.iaload, 1) := by decide +kernel
theorem dX10_setAside_14 : decode cX10_setAside 14 = .ok (.iastore, 1) := by decide +kernel
theorem dX10_setAside_15 : decode cX10_setAside 15 = .ok (.iinc 3 1, 3) := by decide +kernel
theorem dX10_setAside_18 : decode cX10_setAside 18 = .ok (.goto (-16), 3) := by decide +kernel
theorem dX10_setAside_21 : decode cX10_setAside 21 = .ok (.return_, 1) := by decide +kernel
theorem dX10_check_0 : decode cX10_check 0 = .ok (.aload_n 0, 1) := by decide +kernel
theorem dX10_check_1 : decode cX10_check 1 = .ok (.getfield 378, 3) := by decide +kernel
theorem dX10_check_4 : decode cX10_check 4 = .ok (.istore_n 3, 1) := by decide +kernel
theorem dX10_check_5 : decode cX10_check 5 = .ok (.aload_n 0, 1) := by decide +kernel
theorem dX10_check_6 : decode cX10_check 6 = .ok (.iconst 0, 1) := by decide +kernel
theorem dX10_check_7 : decode cX10_check 7 = .ok (.putfield 378, 3) := by decide +kernel
theorem dX10_check_10 : decode cX10_check 10 = .ok (.iload_n 1, 1) := by decide +kernel
theorem dX10_check_11 : decode cX10_check 11 = .ok (.i2l, 1) := by decide +kernel
theorem dX10_check_12 : decode cX10_check 12 = .ok (.ldc2_w 259, 3) := by decide +kernel
theorem dX10_check_15 : decode cX10_check 15 = .ok (.ldc2_w 295, 3) := by decide +kernel
theorem dX10_check_18 : decode cX10_check 18 = .ok (.invokestatic 74, 3) := by decide +kernel
theorem dX10_check_21 : decode cX10_check 21 = .ok (.ifCond .eq 10, 3) := by decide +kernel
theorem dX10_check_24 : decode cX10_check 24 = .ok (.iload_n 2, 1) := by decide +kernel
theorem dX10_check_25 : decode cX10_check 25 = .ok (.invokestatic 99, 3) := by decide +kernel
theorem dX10_check_28 : decode cX10_check 28 = .ok (.ifCond .ne 6, 3) := by decide +kernel
theorem dX10_check_31 : decode cX10_check 31 = .ok (.ldc 84, 2) := by decide +kernel
theorem dX10_check_33 : decode cX10_check 33 = .ok (.ireturn, 1) := by decide +kernel
theorem dX10_check_34 : decode cX10_check 34 = .ok (.aload_n 0, 1) := by decide +kernel
theorem dX10_check_35 : decode cX10_check 35 = .ok (.getfield 381, 3) := by decide +kernel
theorem dX10_check_38 : decode cX10_check 38 = .ok (.ifCond .ne 6, 3) := by decide +kernel
theorem dX10_check_41 : decode cX10_check 41 = .ok (.ldc 85, 2) := by decide +kernel
theorem dX10_check_43 : decode cX10_check 43 = .ok (.ireturn, 1) := by decide +kernel
theorem dX10_check_44 : decode cX10_check 44 = .ok (.aload_n 0, 1) := by decide +kernel
theorem dX10_check_45 : decode cX10_check 45 = .ok (.aload_n 0, 1) := by decide +kernel
theorem dX10_check_46 : decode cX10_check 46 = .ok (.getfield 7, 3) := by decide +kernel
theorem dX10_check_49 : decode cX10_check 49 = .ok (.aload_n 0, 1) := by decide +kernel
theorem dX10_check_50 : decode cX10_check 50 = .ok (.getfield 16, 3) := by decide +kernel
theorem dX10_check_53 : decode cX10_check 53 = .ok (.invokevirtual 385, 3) := by decide +kernel
theorem dX10_check_56 : decode cX10_check 56 = .ok (.aload_n 0, 1) := by decide +kernel
theorem dX10_check_57 : decode cX10_check 57 = .ok (.aload_n 0, 1) := by decide +kernel
theorem dX10_check_58 : decode cX10_check 58 = .ok (.getfield 13, 3) := by decide +kernel
theorem dX10_check_61 : decode cX10_check 61 = .ok (.aload_n 0, 1) := by decide +kernel
theorem dX10_check_62 : decode cX10_check 62 = .ok (.getfield 7, 3) := by decide +kernel
theorem dX10_check_65 : decode cX10_check 65 = .ok (.invokevirtual 385, 3) := by decide +kernel
theorem dX10_check_68 : decode cX10_check 68 = .ok (.aload_n 0, 1) := by decide +kernel
theorem dX10_check_69 : decode cX10_check 69 = .ok (.iload_n 2, 1) := by decide +kernel
theorem dX10_check_70 : decode cX10_check 70 = .ok (.iconst 0, 1) := by decide +kernel
theorem dX10_check_71 : decode cX10_check 71 = .ok (.invokevirtual 125, 3) := by decide +kernel
theorem dX10_check_74 : decode cX10_check 74 = .ok (.istore 4, 2) := by decide +kernel
theorem dX10_check_76 : decode cX10_check 76 = .ok (.iconst 0, 1) := by decide +kernel
theorem dX10_check_77 : decode cX10_check 77 = .ok (.istore 5, 2) := by decide +kernel
theorem dX10_check_79 : decode cX10_check 79 = .ok (.iload 5, 2) := by decide +kernel
theorem dX10_check_81 : decode cX10_check 81 = .ok (.iload_n 1, 1) := by decide +kernel
theorem dX10_check_82 : decode cX10_check 82 = .ok (.if_icmp .ge 22, 3) := by decide +kernel
theorem dX10_check_85 : decode cX10_check 85 = .ok (.aload_n 0, 1) := by decide +kernel
theorem dX10_check_86 : decode cX10_check 86 = .ok (.getfield 70, 3) := by decide +kernel
theorem dX10_check_89 : decode cX10_check 89 = .ok (.iload 5, 2) := by decide +kernel
theorem dX10_check_91 : decode cX10_check 91 = .ok (.aload_n 0, 1) := by decide +kernel
theorem dX10_check_92 : decode cX10_check 92 = .ok (.iload 4, 2) := by decide +kernel
theorem dX10_check_94 : decode cX10_check 94 = .ok (.invokevirtual 360, 3) := by decide +kernel
theorem dX10_check_97 : decode cX10_check 97 = .ok (.iastore, 1) := by decide +kernel
theorem dX10_check_98 : decode cX10_check 98 = .ok (.iinc 5 1, 3) := by decide +kernel
theorem dX10_check_101 : decode cX10_check 101 = .ok (.goto (-22), 3) := by decide +kernel
theorem dX10_check_104 : decode cX10_check 104 = .ok (.aload_n 0, 1) := by decide +kernel
theorem dX10_check_105 : decode cX10_check 105 = .ok (.aload_n 0, 1) := by decide +kernel
theorem dX10_check_106 : decode cX10_check 106 = .ok (.getfield 16, 3) := by decide +kernel
theorem dX10_check_109 : decode cX10_check 109 = .ok (.aload_n 0, 1) := by decide +kernel
theorem dX10_check_110 : decode cX10_check 110 = .ok (.getfield 7, 3) := by decide +kernel
theorem dX10_check_113 : decode cX10_check 113 = .ok (.invokevirtual 385, 3) := by decide +kernel
theorem dX10_check_116 : decode cX10_check 116 = .ok (.iconst 0, 1) := by decide +kernel
theorem dX10_check_117 : decode cX10_check 117 = .ok (.istore 5, 2) := by decide +kernel
theorem dX10_check_119 : decode cX10_check 119 = .ok (.iload 5, 2) := by decide +kernel
theorem dX10_check_121 : decode cX10_check 121 = .ok (.iload_n 3, 1) := by decide +kernel
theorem dX10_check_122 : decode cX10_check 122 = .ok (.if_icmp .ge 32, 3) := by decide +kernel
theorem dX10_check_125 : decode cX10_check 125 = .ok (.iload 5, 2) := by decide +kernel
theorem dX10_check_127 : decode cX10_check 127 = .ok (.iload_n 1, 1) := by decide +kernel
theorem dX10_check_128 : decode cX10_check 128 = .ok (.if_icmp .ge 26, 3) := by decide +kernel
theorem dX10_check_131 : decode cX10_check 131 = .ok (.aload_n 0, 1) := by decide +kernel
theorem dX10_check_132 : decode cX10_check 132 = .ok (.getfield 67, 3) := by decide +kernel
theorem dX10_check_135 : decode cX10_check 135 = .ok (.iload 5, 2) := by decide +kernel
theorem dX10_check_137 : decode cX10_check 137 = .ok (.iaload, 1) := by decide +kernel
theorem dX10_check_138 : decode cX10_check 138 = .ok (.aload_n 0, 1) := by decide +kernel
theorem dX10_check_139 : decode cX10_check 139 = .ok (.getfield 70, 3) := by decide +kernel
theorem dX10_check_142 : decode cX10_check 142 = .ok (.iload 5, 2) := by decide +kernel
theorem dX10_check_144 : decode cX10_check 144 = .ok (.iaload, 1) := by decide +kernel
theorem dX10_check_145 : decode cX10_check 145 = .ok (.if_icmp .ne 9, 3) := by decide +kernel
theorem dX10_check_148 : decode cX10_check 148 = .ok (.iinc 5 1, 3) := by decide +kernel
theorem dX10_check_151 : decode cX10_check 151 = .ok (.goto (-32), 3) := by decide +kernel
theorem dX10_check_154 : decode cX10_check 154 = .ok (.iload 5, 2) := by decide +kernel
theorem dX10_check_156 : decode cX10_check 156 = .ok (.iload_n 3, 1) := by decide +kernel
theorem dX10_check_157 : decode cX10_check 157 = .ok (.if_icmp .ne 13, 3) := by decide +kernel
theorem dX10_check_160 : decode cX10_check 160 = .ok (.iload 5, 2) := by decide +kernel
theorem dX10_check_162 : decode cX10_check 162 = .ok (.iload_n 1, 1) := by decide +kernel
theorem dX10_check_163 : decode cX10_check 163 = .ok (.if_icmp .ne 7, 3) := by decide +kernel
theorem dX10_check_166 : decode cX10_check 166 = .ok (.iconst 0, 1) := by decide +kernel
theorem dX10_check_167 : decode cX10_check 167 = .ok (.goto 7, 3) := by decide +kernel
theorem dX10_check_170 : decode cX10_check 170 = .ok (.iconst 1, 1) := by decide +kernel
theorem dX10_check_171 : decode cX10_check 171 = .ok (.iload 5, 2) := by decide +kernel
theorem dX10_check_173 : decode cX10_check 173 = .ok (.iadd, 1) := by decide +kernel
theorem dX10_check_174 : decode cX10_check 174 = .ok (.ireturn, 1) := by decide +kernel
theorem dX10_keep_0 : decode cX10_keep 0 = .ok (.aload_n 0, 1) := by decide +kernel
theorem dX10_keep_1 : decode cX10_keep 1 = .ok (.iconst 1, 1) := by decide +kernel
theorem dX10_keep_2 : decode cX10_keep 2 = .ok (.putfield 381, 3) := by decide +kernel
theorem dX10_keep_5 : decode cX10_keep 5 = .ok (.aload_n 0, 1) := by decide +kernel
theorem dX10_keep_6 : decode cX10_keep 6 = .ok (.aload_n 0, 1) := by decide +kernel
theorem dX10_keep_7 : decode cX10_keep 7 = .ok (.getfield 7, 3) := by decide +kernel
theorem dX10_keep_10 : decode cX10_keep 10 = .ok (.aload_n 0, 1) := by decide +kernel
theorem dX10_keep_11 : decode cX10_keep 11 = .ok (.getfield 13, 3) := by decide +kernel
theorem dX10_keep_14 : decode cX10_keep 14 = .ok (.invokevirtual 385, 3) := by decide +kernel
theorem dX10_keep_17 : decode cX10_keep 17 = .ok (.aload_n 0, 1) := by decide +kernel
theorem dX10_keep_18 : decode cX10_keep 18 = .ok (.getfield 7, 3) := by decide +kernel
theorem dX10_keep_21 : decode cX10_keep 21 = .ok (.iconst 1, 1) := by decide +kernel
theorem dX10_keep_22 : decode cX10_keep 22 = .ok (.iaload, 1) := by decide +kernel
theorem dX10_keep_23 : decode cX10_keep 23 = .ok (.ireturn, 1) := by decide +kernel
theorem dX10_back_0 : decode cX10_back 0 = .ok (.aload_n 0, 1) := by decide +kernel
theorem dX10_back_1 : decode cX10_back 1 = .ok (.getfield 381, 3) := by decide +kernel
theorem dX10_back_4 : decode cX10_back 4 = .ok (.ifCond .ne 6, 3) := by decide +kernel
theorem dX10_back_7 : decode cX10_back 7 = .ok (.ldc 85, 2) := by decide +kernel
theorem dX10_back_9 : decode cX10_back 9 = .ok (.ireturn, 1) := by decide +kernel
theorem dX10_back_10 : decode cX10_back 10 = .ok (.aload_n 0, 1) := by decide +kernel
theorem dX10_back_11 : decode cX10_back 11 = .ok (.aload_n 0, 1) := by decide +kernel
theorem dX10_back_12 : decode cX10_back 12 = .ok (.getfield 13, 3) := by decide +kernel
theorem dX10_back_15 : decode cX10_back 15 = .ok (.aload_n 0, 1) := by decide +kernel
theorem dX10_back_16 : decode cX10_back 16 = .ok (.getfield 7, 3) := by decide +kernel
theorem dX10_back_19 : decode cX10_back 19 = .ok (.invokevirtual 385, 3) := by decide +kernel
theorem dX10_back_22 : decode cX10_back 22 = .ok (.aload_n 0, 1) := by decide +kernel
theorem dX10_back_23 : decode cX10_back 23 = .ok (.getfield 7, 3) := by decide +kernel
theorem dX10_back_26 : decode cX10_back 26 = .ok (.iconst 1, 1) := by decide +kernel
theorem dX10_back_27 : decode cX10_back 27 = .ok (.iaload, 1) := by decide +kernel
theorem dX10_back_28 : decode cX10_back 28 = .ok (.ireturn, 1) := by decide +kernel
theorem dX10_count_0 : decode cX10_count 0 = .ok (.iconst 0, 1) := by decide +kernel
theorem dX10_count_1 : decode cX10_count 1 = .ok (.istore_n 2, 1) := by decide +kernel
theorem dX10_count_2 : decode cX10_count 2 = .ok (.iload_n 1, 1) := by decide +kernel
theorem dX10_count_3 : decode cX10_count 3 = .ok (.tableswitch 196 0 11 #[61, 68, 75, 75, 142, 149, 156, 163, 170, 178, 183, 188], 61) := by decide +kernel
theorem dX10_count_64 : decode cX10_count 64 = .ok (.aload_n 0, 1) := by decide +kernel
theorem dX10_count_65 : decode cX10_count 65 = .ok (.getfield 7, 3) := by decide +kernel
theorem dX10_count_68 : decode cX10_count 68 = .ok (.iconst 0, 1) := by decide +kernel
theorem dX10_count_69 : decode cX10_count 69 = .ok (.iaload, 1) := by decide +kernel
theorem dX10_count_70 : decode cX10_count 70 = .ok (.ireturn, 1) := by decide +kernel
theorem dX10_count_71 : decode cX10_count 71 = .ok (.aload_n 0, 1) := by decide +kernel
theorem dX10_count_72 : decode cX10_count 72 = .ok (.getfield 7, 3) := by decide +kernel
theorem dX10_count_75 : decode cX10_count 75 = .ok (.iconst 1, 1) := by decide +kernel
theorem dX10_count_76 : decode cX10_count 76 = .ok (.iaload, 1) := by decide +kernel
theorem dX10_count_77 : decode cX10_count 77 = .ok (.ireturn, 1) := by decide +kernel
theorem dX10_count_78 : decode cX10_count 78 = .ok (.iconst 0, 1) := by decide +kernel
theorem dX10_count_79 : decode cX10_count 79 = .ok (.istore_n 3, 1) := by decide +kernel
theorem dX10_count_80 : decode cX10_count 80 = .ok (.iload_n 3, 1) := by decide +kernel
theorem dX10_count_81 : decode cX10_count 81 = .ok (.aload_n 0, 1) := by decide +kernel
theorem dX10_count_82 : decode cX10_count 82 = .ok (.getfield 7, 3) := by decide +kernel
theorem dX10_count_85 : decode cX10_count 85 = .ok (.iconst 1, 1) := by decide +kernel
theorem dX10_count_86 : decode cX10_count 86 = .ok (.iaload, 1) := by decide +kernel
theorem dX10_count_87 : decode cX10_count 87 = .ok (.if_icmp .ge 56, 3) := by decide +kernel
theorem dX10_count_90 : decode cX10_count 90 = .ok (.aload_n 0, 1) := by decide +kernel
theorem dX10_count_91 : decode cX10_count 91 = .ok (.getfield 7, 3) := by decide +kernel
theorem dX10_count_94 : decode cX10_count 94 = .ok (.aload_n 0, 1) := by decide +kernel
theorem dX10_count_95 : decode cX10_count 95 = .ok (.iload_n 3, 1) := by decide +kernel
theorem dX10_count_96 : decode cX10_count 96 = .ok (.invokevirtual 87, 3) := by decide +kernel
theorem dX10_count_99 : decode cX10_count 99 = .ok (.iconst 1, 1) := by decide +kernel
theorem dX10_count_100 : decode cX10_count 100 = .ok (.iadd, 1) := by decide +kernel
theorem dX10_count_101 : decode cX10_count 101 = .ok (.iaload, 1) := by decide +kernel
theorem dX10_count_102 : decode cX10_count 102 = .ok (.istore 4, 2) := by decide +kernel
theorem dX10_count_104 : decode cX10_count 104 = .ok (.iload_n 2, 1) := by decide +kernel
theorem dX10_count_105 : decode cX10_count 105 = .ok (.iload_n 1, 1) := by decide +kernel
theorem dX10_count_106 : decode cX10_count 106 = .ok (.iconst 2, 1) := by decide +kernel
theorem dX10_count_107 : decode cX10_count 107 = .ok (.if_icmp .ne 16, 3) := by decide +kernel
theorem dX10_count_110 : decode cX10_count 110 = .ok (.aload_n 0, 1) := by decide +kernel
theorem dX10_count_111 : decode cX10_count 111 = .ok (.iload_n 3, 1) := by decide +kernel
theorem dX10_count_112 : decode cX10_count 112 = .ok (.iload 4, 2) := by decide +kernel
theorem dX10_count_114 : decode cX10_count 114 = .ok (.invokevirtual 144, 3) := by decide +kernel
theorem dX10_count_117 : decode cX10_count 117 = .ok (.ifCond .eq 17, 3) := by decide +kernel
theorem dX10_count_120 : decode cX10_count 120 = .ok (.goto 10, 3) := by decide +kernel
theorem dX10_count_123 : decode cX10_count 123 = .ok (.iload 4, 2) := by decide +kernel
theorem dX10_count_125 : decode cX10_count 125 = .ok (.bipush 6, 2) := by decide +kernel
theorem dX10_count_127 : decode cX10_count 127 = .ok (.if_icmp .lt 7, 3) := by decide +kernel
theorem dX10_count_130 : decode cX10_count 130 = .ok (.iconst 1, 1) := by decide +kernel
theorem dX10_count_131 : decode cX10_count 131 = .ok (.goto 4, 3) := by decide +kernel
theorem dX10_count_134 : decode cX10_count 134 = .ok (.iconst 0, 1) := by decide +kernel
theorem dX10_count_135 : decode cX10_count 135 = .ok (.iadd, 1) := by decide +kernel
theorem dX10_count_136 : decode cX10_count 136 = .ok (.istore_n 2, 1) := by decide +kernel
theorem dX10_count_137 : decode cX10_count 137 = .ok (.iinc 3 1, 3) := by decide +kernel
theorem dX10_count_140 : decode cX10_count 140 = .ok (.goto (-60), 3) := by decide +kernel
theorem dX10_count_143 : decode cX10_count 143 = .ok (.iload_n 2, 1) := by decide +kernel
theorem dX10_count_144 : decode cX10_count 144 = .ok (.ireturn, 1) := by decide +kernel
theorem dX10_count_145 : decode cX10_count 145 = .ok (.aload_n 0, 1) := by decide +kernel
theorem dX10_count_146 : decode cX10_count 146 = .ok (.getfield 7, 3) := by decide +kernel
theorem dX10_count_149 : decode cX10_count 149 = .ok (.iconst 2, 1) := by decide +kernel
theorem dX10_count_150 : decode cX10_count 150 = .ok (.iaload, 1) := by decide +kernel
theorem dX10_count_151 : decode cX10_count 151 = .ok (.ireturn, 1) := by decide +kernel
theorem dX10_count_152 : decode cX10_count 152 = .ok (.aload_n 0, 1) := by decide +kernel
theorem dX10_count_153 : decode cX10_count 153 = .ok (.getfield 7, 3) := by decide +kernel
theorem dX10_count_156 : decode cX10_count 156 = .ok (.iconst 3, 1) := by decide +kernel
theorem dX10_count_157 : decode cX10_count 157 = .ok (.iaload, 1) := by decide +kernel
theorem dX10_count_158 : decode cX10_count 158 = .ok (.ireturn, 1) := by decide +kernel
theorem dX10_count_159 : decode cX10_count 159 = .ok (.aload_n 0, 1) := by decide +kernel
theorem dX10_count_160 : decode cX10_count 160 = .ok (.getfield 7, 3) := by decide +kernel
theorem dX10_count_163 : decode cX10_count 163 = .ok (.iconst 4, 1) := by decide +kernel
theorem dX10_count_164 : decode cX10_count 164 = .ok (.iaload, 1) := by decide +kernel
theorem dX10_count_165 : decode cX10_count 165 = .ok (.ireturn, 1) := by decide +kernel
theorem dX10_count_166 : decode cX10_count 166 = .ok (.aload_n 0, 1) := by decide +kernel
theorem dX10_count_167 : decode cX10_count 167 = .ok (.getfield 7, 3) := by decide +kernel
theorem dX10_count_170 : decode cX10_count 170 = .ok (.iconst 5, 1) := by decide +kernel
theorem dX10_count_171 : decode cX10_count 171 = .ok (.iaload, 1) := by decide +kernel
theorem dX10_count_172 : decode cX10_count 172 = .ok (.ireturn, 1) := by decide +kernel
theorem dX10_count_173 : decode cX10_count 173 = .ok (.aload_n 0, 1) := by decide +kernel
theorem dX10_count_174 : decode cX10_count 174 = .ok (.getfield 7, 3) := by decide +kernel
theorem dX10_count_177 : decode cX10_count 177 = .ok (.bipush 6, 2) := by decide +kernel
theorem dX10_count_179 : decode cX10_count 179 = .ok (.iaload, 1) := by decide +kernel
theorem dX10_count_180 : decode cX10_count 180 = .ok (.ireturn, 1) := by decide +kernel
theorem dX10_count_181 : decode cX10_count 181 = .ok (.aload_n 0, 1) := by decide +kernel
theorem dX10_count_182 : decode cX10_count 182 = .ok (.getfield 378, 3) := by decide +kernel
theorem dX10_count_185 : decode cX10_count 185 = .ok (.ireturn, 1) := by decide +kernel
theorem dX10_count_186 : decode cX10_count 186 = .ok (.aload_n 0, 1) := by decide +kernel
theorem dX10_count_187 : decode cX10_count 187 = .ok (.getfield 158, 3) := by decide +kernel
theorem dX10_count_190 : decode cX10_count 190 = .ok (.ireturn, 1) := by decide +kernel
theorem dX10_count_191 : decode cX10_count 191 = .ok (.aload_n 0, 1) := by decide +kernel
theorem dX10_count_192 : decode cX10_count 192 = .ok (.getfield 7, 3) := by decide +kernel
theorem dX10_count_195 : decode cX10_count 195 = .ok (.bipush 7, 2) := by decide +kernel
theorem dX10_count_197 : decode cX10_count 197 = .ok (.iaload, 1) := by decide +kernel
theorem dX10_count_198 : decode cX10_count 198 = .ok (.ireturn, 1) := by decide +kernel
theorem dX10_count_199 : decode cX10_count 199 = .ok (.ldc 84, 2) := by decide +kernel
theorem dX10_count_201 : decode cX10_count 201 = .ok (.ireturn, 1) := by decide +kernel
