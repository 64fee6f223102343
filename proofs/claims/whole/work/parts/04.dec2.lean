theorem dX10_init_0 : decode cX10_init 0 = .ok (.aload_n 0, 1) := by decide +kernel
theorem dX10_init_1 : decode cX10_init 1 = .ok (.invokespecial 1, 3) := by decide +kernel
theorem dX10_init_4 : decode cX10_init 4 = .ok (.aload_n 0, 1) := by decide +kernel
theorem dX10_init_5 : decode cX10_init 5 = .ok (.bipush 12, 2) := by decide +kernel
theorem dX10_init_7 : decode cX10_init 7 = .ok (.newarray .int, 2) := by decide +kernel
theorem dX10_init_9 : decode cX10_init 9 = .ok (.putfield 9, 3) := by decide +kernel
theorem dX10_init_12 : decode cX10_init 12 = .ok (.aload_n 0, 1) := by decide +kernel
theorem dX10_init_13 : decode cX10_init 13 = .ok (.bipush 8, 2) := by decide +kernel
theorem dX10_init_15 : decode cX10_init 15 = .ok (.newarray .int, 2) := by decide +kernel
theorem dX10_init_17 : decode cX10_init 17 = .ok (.putfield 13, 3) := by decide +kernel
theorem dX10_init_20 : decode cX10_init 20 = .ok (.aload_n 0, 1) := by decide +kernel
theorem dX10_init_21 : decode cX10_init 21 = .ok (.bipush 8, 2) := by decide +kernel
theorem dX10_init_23 : decode cX10_init 23 = .ok (.newarray .int, 2) := by decide +kernel
theorem dX10_init_25 : decode cX10_init 25 = .ok (.putfield 16, 3) := by decide +kernel
theorem dX10_init_28 : decode cX10_init 28 = .ok (.aload_n 0, 1) := by decide +kernel
theorem dX10_init_29 : decode cX10_init 29 = .ok (.bipush 8, 2) := by decide +kernel
theorem dX10_init_31 : decode cX10_init 31 = .ok (.newarray .int, 2) := by decide +kernel
theorem dX10_init_33 : decode cX10_init 33 = .ok (.putfield 19, 3) := by decide +kernel
theorem dX10_init_36 : decode cX10_init 36 = .ok (.aload_n 0, 1) := by decide +kernel
theorem dX10_init_37 : decode cX10_init 37 = .ok (.bipush 8, 2) := by decide +kernel
theorem dX10_init_39 : decode cX10_init 39 = .ok (.newarray .int, 2) := by decide +kernel
theorem dX10_init_41 : decode cX10_init 41 = .ok (.putfield 22, 3) := by decide +kernel
theorem dX10_init_44 : decode cX10_init 44 = .ok (.aload_n 0, 1) := by decide +kernel
theorem dX10_init_45 : decode cX10_init 45 = .ok (.bipush 8, 2) := by decide +kernel
theorem dX10_init_47 : decode cX10_init 47 = .ok (.newarray .int, 2) := by decide +kernel
theorem dX10_init_49 : decode cX10_init 49 = .ok (.putfield 25, 3) := by decide +kernel
theorem dX10_init_52 : decode cX10_init 52 = .ok (.aload_n 0, 1) := by decide +kernel
theorem dX10_init_53 : decode cX10_init 53 = .ok (.bipush 8, 2) := by decide +kernel
theorem dX10_init_55 : decode cX10_init 55 = .ok (.newarray .int, 2) := by decide +kernel
theorem dX10_init_57 : decode cX10_init 57 = .ok (.putfield 28, 3) := by decide +kernel
theorem dX10_init_60 : decode cX10_init 60 = .ok (.aload_n 0, 1) := by decide +kernel
theorem dX10_init_61 : decode cX10_init 61 = .ok (.bipush 64, 2) := by decide +kernel
theorem dX10_init_63 : decode cX10_init 63 = .ok (.newarray .int, 2) := by decide +kernel
theorem dX10_init_65 : decode cX10_init 65 = .ok (.putfield 31, 3) := by decide +kernel
theorem dX10_init_68 : decode cX10_init 68 = .ok (.aload_n 0, 1) := by decide +kernel
theorem dX10_init_69 : decode cX10_init 69 = .ok (.sipush 250, 3) := by decide +kernel
theorem dX10_init_72 : decode cX10_init 72 = .ok (.newarray .int, 2) := by decide +kernel
theorem dX10_init_74 : decode cX10_init 74 = .ok (.putfield 34, 3) := by decide +kernel
theorem dX10_init_77 : decode cX10_init 77 = .ok (.aload_n 0, 1) := by decide +kernel
theorem dX10_init_78 : decode cX10_init 78 = .ok (.bipush 8, 2) := by decide +kernel
theorem dX10_init_80 : decode cX10_init 80 = .ok (.newarray .int, 2) := by decide +kernel
theorem dX10_init_82 : decode cX10_init 82 = .ok (.putfield 37, 3) := by decide +kernel
theorem dX10_init_85 : decode cX10_init 85 = .ok (.aload_n 0, 1) := by decide +kernel
theorem dX10_init_86 : decode cX10_init 86 = .ok (.bipush 8, 2) := by decide +kernel
theorem dX10_init_88 : decode cX10_init 88 = .ok (.newarray .int, 2) := by decide +kernel
theorem dX10_init_90 : decode cX10_init 90 = .ok (.putfield 40, 3) := by decide +kernel
theorem dX10_init_93 : decode cX10_init 93 = .ok (.aload_n 0, 1) := by decide +kernel
theorem dX10_init_94 : decode cX10_init 94 = .ok (.sipush 320, 3) := by decide +kernel
theorem dX10_init_97 : decode cX10_init 97 = .ok (.newarray .long, 2) := by decide +kernel
theorem dX10_init_99 : decode cX10_init 99 = .ok (.putfield 43, 3) := by decide +kernel
theorem dX10_init_102 : decode cX10_init 102 = .ok (.aload_n 0, 1) := by decide +kernel
theorem dX10_init_103 : decode cX10_init 103 = .ok (.bipush 7, 2) := by decide +kernel
theorem dX10_init_105 : decode cX10_init 105 = .ok (.newarray .int, 2) := by decide +kernel
theorem dX10_init_107 : decode cX10_init 107 = .ok (.putfield 47, 3) := by decide +kernel
theorem dX10_init_110 : decode cX10_init 110 = .ok (.aload_n 0, 1) := by decide +kernel
theorem dX10_init_111 : decode cX10_init 111 = .ok (.bipush 127, 2) := by decide +kernel
theorem dX10_init_113 : decode cX10_init 113 = .ok (.newarray .int, 2) := by decide +kernel
theorem dX10_init_115 : decode cX10_init 115 = .ok (.putfield 50, 3) := by decide +kernel
theorem dX10_init_118 : decode cX10_init 118 = .ok (.aload_n 0, 1) := by decide +kernel
theorem dX10_init_119 : decode cX10_init 119 = .ok (.bipush 127, 2) := by decide +kernel
theorem dX10_init_121 : decode cX10_init 121 = .ok (.newarray .int, 2) := by decide +kernel
theorem dX10_init_123 : decode cX10_init 123 = .ok (.putfield 53, 3) := by decide +kernel
theorem dX10_init_126 : decode cX10_init 126 = .ok (.aload_n 0, 1) := by decide +kernel
theorem dX10_init_127 : decode cX10_init 127 = .ok (.bipush 12, 2) := by decide +kernel
theorem dX10_init_129 : decode cX10_init 129 = .ok (.newarray .int, 2) := by decide +kernel
theorem dX10_init_131 : decode cX10_init 131 = .ok (.putfield 56, 3) := by decide +kernel
theorem dX10_init_134 : decode cX10_init 134 = .ok (.aload_n 0, 1) := by decide +kernel
theorem dX10_init_135 : decode cX10_init 135 = .ok (.bipush 8, 2) := by decide +kernel
theorem dX10_init_137 : decode cX10_init 137 = .ok (.newarray .int, 2) := by decide +kernel
theorem dX10_init_139 : decode cX10_init 139 = .ok (.putfield 59, 3) := by decide +kernel
theorem dX10_init_142 : decode cX10_init 142 = .ok (.aload_n 0, 1) := by decide +kernel
theorem dX10_init_143 : decode cX10_init 143 = .ok (.bipush 8, 2) := by decide +kernel
theorem dX10_init_145 : decode cX10_init 145 = .ok (.newarray .int, 2) := by decide +kernel
theorem dX10_init_147 : decode cX10_init 147 = .ok (.putfield 62, 3) := by decide +kernel
theorem dX10_init_150 : decode cX10_init 150 = .ok (.aload_n 0, 1) := by decide +kernel
theorem dX10_init_151 : decode cX10_init 151 = .ok (.bipush 8, 2) := by decide +kernel
theorem dX10_init_153 : decode cX10_init 153 = .ok (.newarray .int, 2) := by decide +kernel
theorem dX10_init_155 : decode cX10_init 155 = .ok (.putfield 65, 3) := by decide +kernel
theorem dX10_init_158 : decode cX10_init 158 = .ok (.aload_n 0, 1) := by decide +kernel
theorem dX10_init_159 : decode cX10_init 159 = .ok (.bipush 8, 2) := by decide +kernel
theorem dX10_init_161 : decode cX10_init 161 = .ok (.newarray .int, 2) := by decide +kernel
theorem dX10_init_163 : decode cX10_init 163 = .ok (.putfield 68, 3) := by decide +kernel
theorem dX10_init_166 : decode cX10_init 166 = .ok (.aload_n 0, 1) := by decide +kernel
theorem dX10_init_167 : decode cX10_init 167 = .ok (.bipush 8, 2) := by decide +kernel
theorem dX10_init_169 : decode cX10_init 169 = .ok (.newarray .boolean, 2) := by decide +kernel
theorem dX10_init_171 : decode cX10_init 171 = .ok (.putfield 71, 3) := by decide +kernel
theorem dX10_init_174 : decode cX10_init 174 = .ok (.aload_n 0, 1) := by decide +kernel
theorem dX10_init_175 : decode cX10_init 175 = .ok (.bipush 8, 2) := by decide +kernel
theorem dX10_init_177 : decode cX10_init 177 = .ok (.newarray .int, 2) := by decide +kernel
theorem dX10_init_179 : decode cX10_init 179 = .ok (.putfield 75, 3) := by decide +kernel
theorem dX10_init_182 : decode cX10_init 182 = .ok (.aload_n 0, 1) := by decide +kernel
theorem dX10_init_183 : decode cX10_init 183 = .ok (.iconst 3, 1) := by decide +kernel
theorem dX10_init_184 : decode cX10_init 184 = .ok (.newarray .int, 2) := by decide +kernel
theorem dX10_init_186 : decode cX10_init 186 = .ok (.putfield 78, 3) := by decide +kernel
theorem dX10_init_189 : decode cX10_init 189 = .ok (.iconst 0, 1) := by decide +kernel
theorem dX10_init_190 : decode cX10_init 190 = .ok (.istore_n 1, 1) := by decide +kernel
theorem dX10_init_191 : decode cX10_init 191 = .ok (.iload_n 1, 1) := by decide +kernel
theorem dX10_init_192 : decode cX10_init 192 = .ok (.bipush 12, 2) := by decide +kernel
theorem dX10_init_194 : decode cX10_init 194 = .ok (.if_icmp .ge 16, 3) := by decide +kernel
theorem dX10_init_197 : decode cX10_init 197 = .ok (.aload_n 0, 1) := by decide +kernel
theorem dX10_init_198 : decode cX10_init 198 = .ok (.getfield 9, 3) := by decide +kernel
theorem dX10_init_201 : decode cX10_init 201 = .ok (.iload_n 1, 1) := by decide +kernel
theorem dX10_init_202 : decode cX10_init 202 = .ok (.iconst (-1), 1) := by decide +kernel
theorem dX10_init_203 : decode cX10_init 203 = .ok (.iastore, 1) := by decide +kernel
theorem dX10_init_204 : decode cX10_init 204 = .ok (.iinc 1 1, 3) := by decide +kernel
theorem dX10_init_207 : decode cX10_init 207 = .ok (.goto (-16), 3) := by decide +kernel
theorem dX10_init_210 : decode cX10_init 210 = .ok (.aload_n 0, 1) := by decide +kernel
theorem dX10_init_211 : decode cX10_init 211 = .ok (.iconst 1, 1) := by decide +kernel
theorem dX10_init_212 : decode cX10_init 212 = .ok (.putfield 81, 3) := by decide +kernel
theorem dX10_init_215 : decode cX10_init 215 = .ok (.iconst 0, 1) := by decide +kernel
theorem dX10_init_216 : decode cX10_init 216 = .ok (.istore_n 1, 1) := by decide +kernel
theorem dX10_init_217 : decode cX10_init 217 = .ok (.iload_n 1, 1) := by decide +kernel
theorem dX10_init_218 : decode cX10_init 218 = .ok (.bipush 8, 2) := by decide +kernel
theorem dX10_init_220 : decode cX10_init 220 = .ok (.if_icmp .ge 16, 3) := by decide +kernel
theorem dX10_init_223 : decode cX10_init 223 = .ok (.aload_n 0, 1) := by decide +kernel
theorem dX10_init_224 : decode cX10_init 224 = .ok (.getfield 37, 3) := by decide +kernel
theorem dX10_init_227 : decode cX10_init 227 = .ok (.iload_n 1, 1) := by decide +kernel
theorem dX10_init_228 : decode cX10_init 228 = .ok (.iconst (-1), 1) := by decide +kernel
theorem dX10_init_229 : decode cX10_init 229 = .ok (.iastore, 1) := by decide +kernel
theorem dX10_init_230 : decode cX10_init 230 = .ok (.iinc 1 1, 3) := by decide +kernel
theorem dX10_init_233 : decode cX10_init 233 = .ok (.goto (-16), 3) := by decide +kernel
theorem dX10_init_236 : decode cX10_init 236 = .ok (.return_, 1) := by decide +kernel
theorem dX10_no_0 : decode cX10_no 0 = .ok (.aload_n 0, 1) := by decide +kernel
theorem dX10_no_1 : decode cX10_no 1 = .ok (.getfield 47, 3) := by decide +kernel
theorem dX10_no_4 : decode cX10_no 4 = .ok (.iload_n 1, 1) := by decide +kernel
theorem dX10_no_5 : decode cX10_no 5 = .ok (.ineg, 1) := by decide +kernel
theorem dX10_no_6 : decode cX10_no 6 = .ok (.dup2, 1) := by decide +kernel
theorem dX10_no_7 : decode cX10_no 7 = .ok (.iaload, 1) := by decide +kernel
theorem dX10_no_8 : decode cX10_no 8 = .ok (.iconst 1, 1) := by decide +kernel
theorem dX10_no_9 : decode cX10_no 9 = .ok (.iadd, 1) := by decide +kernel
theorem dX10_no_10 : decode cX10_no 10 = .ok (.iastore, 1) := by decide +kernel
theorem dX10_no_11 : decode cX10_no 11 = .ok (.iload_n 1, 1) := by decide +kernel
theorem dX10_no_12 : decode cX10_no 12 = .ok (.ireturn, 1) := by decide +kernel
theorem dX10_within_0 : decode cX10_within 0 = .ok (.iload_n 0, 1) := by decide +kernel
theorem dX10_within_1 : decode cX10_within 1 = .ok (.iload_n 1, 1) := by decide +kernel
theorem dX10_within_2 : decode cX10_within 2 = .ok (.if_icmp .lt 12, 3) := by decide +kernel
theorem dX10_within_5 : decode cX10_within 5 = .ok (.iload_n 0, 1) := by decide +kernel
theorem dX10_within_6 : decode cX10_within 6 = .ok (.iload_n 2, 1) := by decide +kernel
theorem dX10_within_7 : decode cX10_within 7 = .ok (.if_icmp .gt 7, 3) := by decide +kernel
theorem dX10_within_10 : decode cX10_within 10 = .ok (.iconst 1, 1) := by decide +kernel
theorem dX10_within_11 : decode cX10_within 11 = .ok (.goto 4, 3) := by decide +kernel
theorem dX10_within_14 : decode cX10_within 14 = .ok (.iconst 0, 1) := by decide +kernel
theorem dX10_within_15 : decode cX10_within 15 = .ok (.ireturn, 1) := by decide +kernel
theorem dX10_in_0 : decode cX10_in 0 = .ok (.iload_n 0, 1) := by decide +kernel
theorem dX10_in_1 : decode cX10_in 1 = .ok (.iload_n 1, 1) := by decide +kernel
theorem dX10_in_2 : decode cX10_in 2 = .ok (.ishr, 1) := by decide +kernel
theorem dX10_in_3 : decode cX10_in 3 = .ok (.iconst 1, 1) := by decide +kernel
theorem dX10_in_4 : decode cX10_in 4 = .ok (.iand, 1) := by decide +kernel
theorem dX10_in_5 : decode cX10_in 5 = .ok (.iconst 1, 1) := by decide +kernel
theorem dX10_in_6 : decode cX10_in 6 = .ok (.if_icmp .ne 7, 3) := by decide +kernel
theorem dX10_in_9 : decode cX10_in 9 = .ok (.iconst 1, 1) := by decide +kernel
theorem dX10_in_10 : decode cX10_in 10 = .ok (.goto 4, 3) := by decide +kernel
theorem dX10_in_13 : decode cX10_in 13 = .ok (.iconst 0, 1) := by decide +kernel
theorem dX10_in_14 : decode cX10_in 14 = .ok (.ireturn, 1) := by decide +kernel
theorem dX10_isPlace_0 : decode cX10_isPlace 0 = .ok (.iload_n 0, 1) := by decide +kernel
theorem dX10_isPlace_1 : decode cX10_isPlace 1 = .ok (.iconst 0, 1) := by decide +kernel
theorem dX10_isPlace_2 : decode cX10_isPlace 2 = .ok (.bipush 11, 2) := by decide +kernel
theorem dX10_isPlace_4 : decode cX10_isPlace 4 = .ok (.invokestatic 85, 3) := by decide +kernel
theorem dX10_isPlace_7 : decode cX10_isPlace 7 = .ok (.ireturn, 1) := by decide +kernel
theorem dX10_isSort_0 : decode cX10_isSort 0 = .ok (.iload_n 0, 1) := by decide +kernel
theorem dX10_isSort_1 : decode cX10_isSort 1 = .ok (.iconst 0, 1) := by decide +kernel
theorem dX10_isSort_2 : decode cX10_isSort 2 = .ok (.bipush 7, 2) := by decide +kernel
theorem dX10_isSort_4 : decode cX10_isSort 4 = .ok (.invokestatic 85, 3) := by decide +kernel
theorem dX10_isSort_7 : decode cX10_isSort 7 = .ok (.ireturn, 1) := by decide +kernel
theorem dX10_isLooker_0 : decode cX10_isLooker 0 = .ok (.iload_n 1, 1) := by decide +kernel
theorem dX10_isLooker_1 : decode cX10_isLooker 1 = .ok (.iconst 0, 1) := by decide +kernel
theorem dX10_isLooker_2 : decode cX10_isLooker 2 = .ok (.aload_n 0, 1) := by decide +kernel
theorem dX10_isLooker_3 : decode cX10_isLooker 3 = .ok (.getfield 89, 3) := by decide +kernel
theorem dX10_isLooker_6 : decode cX10_isLooker 6 = .ok (.iconst 1, 1) := by decide +kernel
theorem dX10_isLooker_7 : decode cX10_isLooker 7 = .ok (.isub, 1) := by decide +kernel
theorem dX10_isLooker_8 : decode cX10_isLooker 8 = .ok (.invokestatic 85, 3) := by decide +kernel
theorem dX10_isLooker_11 : decode cX10_isLooker 11 = .ok (.ireturn, 1) := by decide +kernel
theorem dX10_isSet_0 : decode cX10_isSet 0 = .ok (.iload_n 1, 1) := by decide +kernel
theorem dX10_isSet_1 : decode cX10_isSet 1 = .ok (.iconst 0, 1) := by decide +kernel
theorem dX10_isSet_2 : decode cX10_isSet 2 = .ok (.iconst 1, 1) := by decide +kernel
theorem dX10_isSet_3 : decode cX10_isSet 3 = .ok (.aload_n 0, 1) := by decide +kernel
theorem dX10_isSet_4 : decode cX10_isSet 4 = .ok (.getfield 89, 3) := by decide +kernel
theorem dX10_isSet_7 : decode cX10_isSet 7 = .ok (.ishl, 1) := by decide +kernel
theorem dX10_isSet_8 : decode cX10_isSet 8 = .ok (.iconst 1, 1) := by decide +kernel
theorem dX10_isSet_9 : decode cX10_isSet 9 = .ok (.isub, 1) := by decide +kernel
theorem dX10_isSet_10 : decode cX10_isSet 10 = .ok (.invokestatic 85, 3) := by decide +kernel
theorem dX10_isSet_13 : decode cX10_isSet 13 = .ok (.ireturn, 1) := by decide +kernel
theorem dX10_arePlaces_0 : decode cX10_arePlaces 0 = .ok (.iload_n 0, 1) := by decide +kernel
theorem dX10_arePlaces_1 : decode cX10_arePlaces 1 = .ok (.iconst 0, 1) := by decide +kernel
theorem dX10_arePlaces_2 : decode cX10_arePlaces 2 = .ok (.sipush 4095, 3) := by decide +kernel
theorem dX10_arePlaces_5 : decode cX10_arePlaces 5 = .ok (.invokestatic 85, 3) := by decide +kernel
theorem dX10_arePlaces_8 : decode cX10_arePlaces 8 = .ok (.ireturn, 1) := by decide +kernel
theorem dX10_isShelf_0 : decode cX10_isShelf 0 = .ok (.iload_n 0, 1) := by decide +kernel
theorem dX10_isShelf_1 : decode cX10_isShelf 1 = .ok (.iconst 0, 1) := by decide +kernel
theorem dX10_isShelf_2 : decode cX10_isShelf 2 = .ok (.bipush 7, 2) := by decide +kernel
theorem dX10_isShelf_4 : decode cX10_isShelf 4 = .ok (.invokestatic 85, 3) := by decide +kernel
theorem dX10_isShelf_7 : decode cX10_isShelf 7 = .ok (.ireturn, 1) := by decide +kernel
theorem dX10_isRow_0 : decode cX10_isRow 0 = .ok (.aload_n 0, 1) := by decide +kernel
theorem dX10_isRow_1 : decode cX10_isRow 1 = .ok (.getfield 37, 3) := by decide +kernel
theorem dX10_isRow_4 : decode cX10_isRow 4 = .ok (.iload_n 1, 1) := by decide +kernel
theorem dX10_isRow_5 : decode cX10_isRow 5 = .ok (.iaload, 1) := by decide +kernel
theorem dX10_isRow_6 : decode cX10_isRow 6 = .ok (.iconst 0, 1) := by decide +kernel
theorem dX10_isRow_7 : decode cX10_isRow 7 = .ok (.iconst 4, 1) := by decide +kernel
theorem dX10_isRow_8 : decode cX10_isRow 8 = .ok (.invokestatic 85, 3) := by decide +kernel
theorem dX10_isRow_11 : decode cX10_isRow 11 = .ok (.ireturn, 1) := by decide +kernel
theorem dX10_row_0 : decode cX10_row 0 = .ok (.iload_n 1, 1) := by decide +kernel
theorem dX10_row_1 : decode cX10_row 1 = .ok (.invokestatic 92, 3) := by decide +kernel
theorem dX10_row_4 : decode cX10_row 4 = .ok (.ifCond .eq 22, 3) := by decide +kernel
theorem dX10_row_7 : decode cX10_row 7 = .ok (.iload_n 2, 1) := by decide +kernel
theorem dX10_row_8 : decode cX10_row 8 = .ok (.iconst 0, 1) := by decide +kernel
theorem dX10_row_9 : decode cX10_row 9 = .ok (.iconst 4, 1) := by decide +kernel
theorem dX10_row_10 : decode cX10_row 10 = .ok (.invokestatic 85, 3) := by decide +kernel
theorem dX10_row_13 : decode cX10_row 13 = .ok (.ifCond .eq 13, 3) := by decide +kernel
theorem dX10_row_16 : decode cX10_row 16 = .ok (.iload_n 3, 1) := by decide +kernel
theorem dX10_row_17 : decode cX10_row 17 = .ok (.iconst 0, 1) := by decide +kernel
theorem dX10_row_18 : decode cX10_row 18 = .ok (.bipush 40, 2) := by decide +kernel
theorem dX10_row_20 : decode cX10_row 20 = .ok (.invokestatic 85, 3) := by decide +kernel
theorem dX10_row_23 : decode cX10_row 23 = .ok (.ifCond .ne 10, 3) := by decide +kernel
theorem dX10_row_26 : decode cX10_row 26 = .ok (.aload_n 0, 1) := by decide +kernel
theorem dX10_row_27 : decode cX10_row 27 = .ok (.bipush (-2), 2) := by decide +kernel
theorem dX10_row_29 : decode cX10_row 29 = .ok (.invokevirtual 96, 3) := by decide +kernel
theorem dX10_row_32 : decode cX10_row 32 = .ok (.ireturn, 1) := by decide +kernel
theorem dX10_row_33 : decode cX10_row 33 = .ok (.aload_n 0, 1) := by decide +kernel
theorem dX10_row_34 : decode cX10_row 34 = .ok (.getfield 37, 3) := by decide +kernel
theorem dX10_row_37 : decode cX10_row 37 = .ok (.iload_n 1, 1) := by decide +kernel
theorem dX10_row_38 : decode cX10_row 38 = .ok (.iload_n 2, 1) := by decide +kernel
theorem dX10_row_39 : decode cX10_row 39 = .ok (.iastore, 1) := by decide +kernel
theorem dX10_row_40 : decode cX10_row 40 = .ok (.aload_n 0, 1) := by decide +kernel
theorem dX10_row_41 : decode cX10_row 41 = .ok (.getfield 40, 3) := by decide +kernel
theorem dX10_row_44 : decode cX10_row 44 = .ok (.iload_n 1, 1) := by decide +kernel
theorem dX10_row_45 : decode cX10_row 45 = .ok (.iload_n 3, 1) := by decide +kernel
theorem dX10_row_46 : decode cX10_row 46 = .ok (.iastore, 1) := by decide +kernel
theorem dX10_row_47 : decode cX10_row 47 = .ok (.iconst 0, 1) := by decide +kernel
theorem dX10_row_48 : decode cX10_row 48 = .ok (.istore 4, 2) := by decide +kernel
theorem dX10_row_50 : decode cX10_row 50 = .ok (.iload 4, 2) := by decide +kernel
theorem dX10_row_52 : decode cX10_row 52 = .ok (.bipush 40, 2) := by decide +kernel
theorem dX10_row_54 : decode cX10_row 54 = .ok (.if_icmp .ge 22, 3) := by decide +kernel
theorem dX10_row_57 : decode cX10_row 57 = .ok (.aload_n 0, 1) := by decide +kernel
theorem dX10_row_58 : decode cX10_row 58 = .ok (.getfield 43, 3) := by decide +kernel
theorem dX10_row_61 : decode cX10_row 61 = .ok (.bipush 40, 2) := by decide +kernel
theorem dX10_row_63 : decode cX10_row 63 = .ok (.iload_n 1, 1) := by decide +kernel
theorem dX10_row_64 : decode cX10_row 64 = .ok (.imul, 1) := by decide +kernel
theorem dX10_row_65 : decode cX10_row 65 = .ok (.iload 4, 2) := by decide +kernel
theorem dX10_row_67 : decode cX10_row 67 = .ok (.iadd, 1) := by decide +kernel
theorem dX10_row_68 : decode cX10_row 68 = .ok (.lconst 0, 1) := by decide +kernel
theorem dX10_row_69 : decode cX10_row 69 = .ok (.lastore, 1) := by decide +kernel
theorem dX10_row_70 : decode cX10_row 70 = .ok (.iinc 4 1, 3) := by decide +kernel
theorem dX10_row_73 : decode cX10_row 73 = .ok (.goto (-23), 3) := by decide +kernel
theorem dX10_row_76 : decode cX10_row 76 = .ok (.iconst 1, 1) := by decide +kernel
theorem dX10_row_77 : decode cX10_row 77 = .ok (.ireturn, 1) := by decide +kernel
theorem dX10_noRow_0 : decode cX10_noRow 0 = .ok (.aload_n 0, 1) := by decide +kernel
theorem dX10_noRow_1 : decode cX10_noRow 1 = .ok (.getfield 37, 3) := by decide +kernel
theorem dX10_noRow_4 : decode cX10_noRow 4 = .ok (.iload_n 1, 1) := by decide +kernel
theorem dX10_noRow_5 : decode cX10_noRow 5 = .ok (.iaload, 1) := by decide +kernel
theorem dX10_noRow_6 : decode cX10_noRow 6 = .ok (.bipush 10, 2) := by decide +kernel
theorem dX10_noRow_8 : decode cX10_noRow 8 = .ok (.if_icmp .lt 8, 3) := by decide +kernel
theorem dX10_noRow_11 : decode cX10_noRow 11 = .ok (.bipush (-3), 2) := by decide +kernel
theorem dX10_noRow_13 : decode cX10_noRow 13 = .ok (.goto 18, 3) := by decide +kernel
theorem dX10_noRow_16 : decode cX10_noRow 16 = .ok (.aload_n 0, 1) := by decide +kernel
theorem dX10_noRow_17 : decode cX10_noRow 17 = .ok (.getfield 37, 3) := by decide +kernel
theorem dX10_noRow_20 : decode cX10_noRow 20 = .ok (.iload_n 1, 1) := by decide +kernel
theorem dX10_noRow_21 : decode cX10_noRow 21 = .ok (.iaload, 1) := by decide +kernel
theorem dX10_noRow_22 : decode cX10_noRow 22 = .ok (.ifCond .ge 8, 3) := by decide +kernel
theorem dX10_noRow_25 : decode cX10_noRow 25 = .ok (.bipush (-4), 2) := by decide +kernel
theorem dX10_noRow_27 : decode cX10_noRow 27 = .ok (.goto 4, 3) := by decide +kernel
theorem dX10_noRow_30 : decode cX10_noRow 30 = .ok (.iconst 0, 1) := by decide +kernel
theorem dX10_noRow_31 : decode cX10_noRow 31 = .ok (.ireturn, 1) := by decide +kernel
theorem dX10_kept_0 : decode cX10_kept 0 = .ok (.iload_n 0, 1) := by decide +kernel
theorem dX10_kept_1 : decode cX10_kept 1 = .ok (.tableswitch 47 0 3 #[31, 36, 41, 45], 31) := by decide +kernel
theorem dX10_kept_32 : decode cX10_kept 32 = .ok (.lload_n 1, 1) := by decide +kernel
theorem dX10_kept_33 : decode cX10_kept 33 = .ok (.l2i, 1) := by decide +kernel
theorem dX10_kept_34 : decode cX10_kept 34 = .ok (.i2b, 1) := by decide +kernel
theorem dX10_kept_35 : decode cX10_kept 35 = .ok (.i2l, 1) := by decide +kernel
theorem dX10_kept_36 : decode cX10_kept 36 = .ok (.lreturn, 1) := by decide +kernel
theorem dX10_kept_37 : decode cX10_kept 37 = .ok (.lload_n 1, 1) := by decide +kernel
theorem dX10_kept_38 : decode cX10_kept 38 = .ok (.l2i, 1) := by decide +kernel
theorem dX10_kept_39 : decode cX10_kept 39 = .ok (.i2s, 1) := by decide +kernel
theorem dX10_kept_40 : decode cX10_kept 40 = .ok (.i2l, 1) := by decide +kernel
theorem dX10_kept_41 : decode cX10_kept 41 = .ok (.lreturn, 1) := by decide +kernel
theorem dX10_kept_42 : decode cX10_kept 42 = .ok (.lload_n 1, 1) := by decide +kernel
theorem dX10_kept_43 : decode cX10_kept 43 = .ok (.l2i, 1) := by decide +kernel
theorem dX10_kept_44 : decode cX10_kept 44 = .ok (.i2l, 1) := by decide +kernel
theorem dX10_kept_45 : decode cX10_kept 45 = .ok (.lreturn, 1) := by decide +kernel
theorem dX10_kept_46 : decode cX10_kept 46 = .ok (.lload_n 1, 1) := by decide +kernel
theorem dX10_kept_47 : decode cX10_kept 47 = .ok (.lreturn, 1) := by decide +kernel
theorem dX10_kept_48 : decode cX10_kept 48 = .ok (.lload_n 1, 1) := by decide +kernel
theorem dX10_kept_49 : decode cX10_kept 49 = .ok (.lconst 0, 1) := by decide +kernel
theorem dX10_kept_50 : decode cX10_kept 50 = .ok (.lcmp, 1) := by decide +kernel
theorem dX10_kept_51 : decode cX10_kept 51 = .ok (.ifCond .eq 7, 3) := by decide +kernel
theorem dX10_kept_54 : decode cX10_kept 54 = .ok (.lconst 1, 1) := by decide +kernel
theorem dX10_kept_55 : decode cX10_kept 55 = .ok (.goto 4, 3) := by decide +kernel
theorem dX10_kept_58 : decode cX10_kept 58 = .ok (.lconst 0, 1) := by decide +kernel
theorem dX10_kept_59 : decode cX10_kept 59 = .ok (.lreturn, 1) := by decide +kernel
theorem dX10_set_0 : decode cX10_set 0 = .ok (.iload_n 1, 1) := by decide +kernel
theorem dX10_set_1 : decode cX10_set 1 = .ok (.invokestatic 92, 3) := by decide +kernel
theorem dX10_set_4 : decode cX10_set 4 = .ok (.ifCond .ne 10, 3) := by decide +kernel
theorem dX10_set_7 : decode cX10_set 7 = .ok (.aload_n 0, 1) := by decide +kernel
theorem dX10_set_8 : decode cX10_set 8 = .ok (.bipush (-2), 2) := by decide +kernel
theorem dX10_set_10 : decode cX10_set 10 = .ok (.invokevirtual 96, 3) := by decide +kernel
theorem dX10_set_13 : decode cX10_set 13 = .ok (.ireturn, 1) := by decide +kernel
theorem dX10_set_14 : decode cX10_set 14 = .ok (.aload_n 0, 1) := by decide +kernel
theorem dX10_set_15 : decode cX10_set 15 = .ok (.iload_n 1, 1) := by decide +kernel
theorem dX10_set_16 : decode cX10_set 16 = .ok (.invokevirtual 100, 3) := by decide +kernel
theorem dX10_set_19 : decode cX10_set 19 = .ok (.ifCond .ne 13, 3) := by decide +kernel
theorem dX10_set_22 : decode cX10_set 22 = .ok (.aload_n 0, 1) := by decide +kernel
theorem dX10_set_23 : decode cX10_set 23 = .ok (.aload_n 0, 1) := by decide +kernel
theorem dX10_set_24 : decode cX10_set 24 = .ok (.iload_n 1, 1) := by decide +kernel
theorem dX10_set_25 : decode cX10_set 25 = .ok (.invokevirtual 103, 3) := by decide +kernel
theorem dX10_set_28 : decode cX10_set 28 = .ok (.invokevirtual 96, 3) := by decide +kernel
theorem dX10_set_31 : decode cX10_set 31 = .ok (.ireturn, 1) := by decide +kernel
theorem dX10_set_32 : decode cX10_set 32 = .ok (.iload_n 2, 1) := by decide +kernel
theorem dX10_set_33 : decode cX10_set 33 = .ok (.iconst 0, 1) := by decide +kernel
theorem dX10_set_34 : decode cX10_set 34 = .ok (.aload_n 0, 1) := by decide +kernel
theorem dX10_set_35 : decode cX10_set 35 = .ok (.getfield 40, 3) := by decide +kernel
theorem dX10_set_38 : decode cX10_set 38 = .ok (.iload_n 1, 1) := by decide +kernel
theorem dX10_set_39 : decode cX10_set 39 = .ok (.iaload, 1) := by decide +kernel
theorem dX10_set_40 : decode cX10_set 40 = .ok (.iconst 1, 1) := by decide +kernel
theorem dX10_set_41 : decode cX10_set 41 = .ok (.isub, 1) := by decide +kernel
theorem dX10_set_42 : decode cX10_set 42 = .ok (.invokestatic 85, 3) := by decide +kernel
theorem dX10_set_45 : decode cX10_set 45 = .ok (.ifCond .ne 10, 3) := by decide +kernel
theorem dX10_set_48 : decode cX10_set 48 = .ok (.aload_n 0, 1) := by decide +kernel
theorem dX10_set_49 : decode cX10_set 49 = .ok (.bipush (-2), 2) := by decide +kernel
theorem dX10_set_51 : decode cX10_set 51 = .ok (.invokevirtual 96, 3) := by decide +kernel
theorem dX10_set_54 : decode cX10_set 54 = .ok (.ireturn, 1) := by decide +kernel
theorem dX10_set_55 : decode cX10_set 55 = .ok (.aload_n 0, 1) := by decide +kernel
theorem dX10_set_56 : decode cX10_set 56 = .ok (.getfield 43, 3) := by decide +kernel
theorem dX10_set_59 : decode cX10_set 59 = .ok (.bipush 40, 2) := by decide +kernel
theorem dX10_set_61 : decode cX10_set 61 = .ok (.iload_n 1, 1) := by decide +kernel
theorem dX10_set_62 : decode cX10_set 62 = .ok (.imul, 1) := by decide +kernel
theorem dX10_set_63 : decode cX10_set 63 = .ok (.iload_n 2, 1) := by decide +kernel
theorem dX10_set_64 : decode cX10_set 64 = .ok (.iadd, 1) := by decide +kernel
theorem dX10_set_65 : decode cX10_set 65 = .ok (.aload_n 0, 1) := by decide +kernel
theorem dX10_set_66 : decode cX10_set 66 = .ok (.getfield 37, 3) := by decide +kernel
theorem dX10_set_69 : decode cX10_set 69 = .ok (.iload_n 1, 1) := by decide +kernel
theorem dX10_set_70 : decode cX10_set 70 = .ok (.iaload, 1) := by decide +kernel
theorem dX10_set_71 : decode cX10_set 71 = .ok (.lload_n 3, 1) := by decide +kernel
theorem dX10_set_72 : decode cX10_set 72 = .ok (.invokestatic 106, 3) := by decide +kernel
theorem dX10_set_75 : decode cX10_set 75 = .ok (.lastore, 1) := by decide +kernel
theorem dX10_set_76 : decode cX10_set 76 = .ok (.iconst 1, 1) := by decide +kernel
theorem dX10_set_77 : decode cX10_set 77 = .ok (.ireturn, 1) := by decide +kernel
theorem dX10_copy_0 : decode cX10_copy 0 = .ok (.iload_n 1, 1) := by decide +kernel
theorem dX10_copy_1 : decode cX10_copy 1 = .ok (.invokestatic 92, 3) := by decide +kernel
theorem dX10_copy_4 : decode cX10_copy 4 = .ok (.ifCond .eq 10, 3) := by decide +kernel
theorem dX10_copy_7 : decode cX10_copy 7 = .ok (.iload_n 2, 1) := by decide +kernel
theorem dX10_copy_8 : decode cX10_copy 8 = .ok (.invokestatic 92, 3) := by decide +kernel
theorem dX10_copy_11 : decode cX10_copy 11 = .ok (.ifCond .ne 10, 3) := by decide +kernel
theorem dX10_copy_14 : decode cX10_copy 14 = .ok (.aload_n 0, 1) := by decide +kernel
theorem dX10_copy_15 : decode cX10_copy 15 = .ok (.bipush (-2), 2) := by decide +kernel
theorem dX10_copy_17 : decode cX10_copy 17 = .ok (.invokevirtual 96, 3) := by decide +kernel
theorem dX10_copy_20 : decode cX10_copy 20 = .ok (.ireturn, 1) := by decide +kernel
theorem dX10_copy_21 : decode cX10_copy 21 = .ok (.aload_n 0, 1) := by decide +kernel
theorem dX10_copy_22 : decode cX10_copy 22 = .ok (.getfield 37, 3) := by decide +kernel
theorem dX10_copy_25 : decode cX10_copy 25 = .ok (.iload_n 1, 1) := by decide +kernel
theorem dX10_copy_26 : decode cX10_copy 26 = .ok (.iaload, 1) := by decide +kernel
theorem dX10_copy_27 : decode cX10_copy 27 = .ok (.bipush 10, 2) := by decide +kernel
theorem dX10_copy_29 : decode cX10_copy 29 = .ok (.if_icmp .ge 45, 3) := by decide +kernel
theorem dX10_copy_32 : decode cX10_copy 32 = .ok (.aload_n 0, 1) := by decide +kernel
theorem dX10_copy_33 : decode cX10_copy 33 = .ok (.getfield 37, 3) := by decide +kernel
theorem dX10_copy_36 : decode cX10_copy 36 = .ok (.iload_n 2, 1) := by decide +kernel
theorem dX10_copy_37 : decode cX10_copy 37 = .ok (.iaload, 1) := by decide +kernel
theorem dX10_copy_38 : decode cX10_copy 38 = .ok (.bipush 10, 2) := by decide +kernel
theorem dX10_copy_40 : decode cX10_copy 40 = .ok (.if_icmp .ge 34, 3) := by decide +kernel
theorem dX10_copy_43 : decode cX10_copy 43 = .ok (.aload_n 0, 1) := by decide +kernel
theorem dX10_copy_44 : decode cX10_copy 44 = .ok (.iload_n 1, 1) := by decide +kernel
theorem dX10_copy_45 : decode cX10_copy 45 = .ok (.invokevirtual 100, 3) := by decide +kernel
theorem dX10_copy_48 : decode cX10_copy 48 = .ok (.ifCond .eq 33, 3) := by decide +kernel
theorem dX10_copy_51 : decode cX10_copy 51 = .ok (.aload_n 0, 1) := by decide +kernel
theorem dX10_copy_52 : decode cX10_copy 52 = .ok (.iload_n 2, 1) := by decide +kernel
theorem dX10_copy_53 : decode cX10_copy 53 = .ok (.invokevirtual 100, 3) := by decide +kernel
theorem dX10_copy_56 : decode cX10_copy 56 = .ok (.ifCond .eq 25, 3) := by decide +kernel
theorem dX10_copy_59 : decode cX10_copy 59 = .ok (.aload_n 0, 1) := by decide +kernel
theorem dX10_copy_60 : decode cX10_copy 60 = .ok (.getfield 37, 3) := by decide +kernel
theorem dX10_copy_63 : decode cX10_copy 63 = .ok (.iload_n 1, 1) := by decide +kernel
theorem dX10_copy_64 : decode cX10_copy 64 = .ok (.iaload, 1) := by decide +kernel
theorem dX10_copy_65 : decode cX10_copy 65 = .ok (.aload_n 0, 1) := by decide +kernel
theorem dX10_copy_66 : decode cX10_copy 66 = .ok (.getfield 37, 3) := by decide +kernel
theorem dX10_copy_69 : decode cX10_copy 69 = .ok (.iload_n 2, 1) := by decide +kernel
theorem dX10_copy_70 : decode cX10_copy 70 = .ok (.iaload, 1) := by decide +kernel
theorem dX10_copy_71 : decode cX10_copy 71 = .ok (.if_icmp .eq 10, 3) := by decide +kernel
theorem dX10_copy_74 : decode cX10_copy 74 = .ok (.aload_n 0, 1) := by decide +kernel
theorem dX10_copy_75 : decode cX10_copy 75 = .ok (.bipush (-3), 2) := by decide +kernel
theorem dX10_copy_77 : decode cX10_copy 77 = .ok (.invokevirtual 96, 3) := by decide +kernel
theorem dX10_copy_80 : decode cX10_copy 80 = .ok (.ireturn, 1) := by decide +kernel
theorem dX10_copy_81 : decode cX10_copy 81 = .ok (.aload_n 0, 1) := by decide +kernel
theorem dX10_copy_82 : decode cX10_copy 82 = .ok (.getfield 37, 3) := by decide +kernel
theorem dX10_copy_85 : decode cX10_copy 85 = .ok (.iload_n 1, 1) := by decide +kernel
theorem dX10_copy_86 : decode cX10_copy 86 = .ok (.iaload, 1) := by decide +kernel
theorem dX10_copy_87 : decode cX10_copy 87 = .ok (.ifCond .lt 12, 3) := by decide +kernel
theorem dX10_copy_90 : decode cX10_copy 90 = .ok (.aload_n 0, 1) := by decide +kernel
theorem dX10_copy_91 : decode cX10_copy 91 = .ok (.getfield 37, 3) := by decide +kernel
theorem dX10_copy_94 : decode cX10_copy 94 = .ok (.iload_n 2, 1) := by decide +kernel
theorem dX10_copy_95 : decode cX10_copy 95 = .ok (.iaload, 1) := by decide +kernel
theorem dX10_copy_96 : decode cX10_copy 96 = .ok (.ifCond .ge 10, 3) := by decide +kernel
theorem dX10_copy_99 : decode cX10_copy 99 = .ok (.aload_n 0, 1) := by decide +kernel
theorem dX10_copy_100 : decode cX10_copy 100 = .ok (.bipush (-4), 2) := by decide +kernel
theorem dX10_copy_102 : decode cX10_copy 102 = .ok (.invokevirtual 96, 3) := by decide +kernel
theorem dX10_copy_105 : decode cX10_copy 105 = .ok (.ireturn, 1) := by decide +kernel
theorem dX10_copy_106 : decode cX10_copy 106 = .ok (.iload 5, 2) := by decide +kernel
theorem dX10_copy_108 : decode cX10_copy 108 = .ok (.ifCond .lt 47, 3) := by decide +kernel
theorem dX10_copy_111 : decode cX10_copy 111 = .ok (.iload_n 3, 1) := by decide +kernel
theorem dX10_copy_112 : decode cX10_copy 112 = .ok (.ifCond .lt 43, 3) := by decide +kernel
theorem dX10_copy_115 : decode cX10_copy 115 = .ok (.iload 4, 2) := by decide +kernel
theorem dX10_copy_117 : decode cX10_copy 117 = .ok (.ifCond .lt 38, 3) := by decide +kernel
theorem dX10_copy_120 : decode cX10_copy 120 = .ok (.iload_n 3, 1) := by decide +kernel
theorem dX10_copy_121 : decode cX10_copy 121 = .ok (.i2l, 1) := by decide +kernel
theorem dX10_copy_122 : decode cX10_copy 122 = .ok (.iload 5, 2) := by decide +kernel
theorem dX10_copy_124 : decode cX10_copy 124 = .ok (.i2l, 1) := by decide +kernel
theorem dX10_copy_125 : decode cX10_copy 125 = .ok (.ladd, 1) := by decide +kernel
theorem dX10_copy_126 : decode cX10_copy 126 = .ok (.aload_n 0, 1) := by decide +kernel
theorem dX10_copy_127 : decode cX10_copy 127 = .ok (.getfield 40, 3) := by decide +kernel
theorem dX10_copy_130 : decode cX10_copy 130 = .ok (.iload_n 1, 1) := by decide +kernel
theorem dX10_copy_131 : decode cX10_copy 131 = .ok (.iaload, 1) := by decide +kernel
theorem dX10_copy_132 : decode cX10_copy 132 = .ok (.i2l, 1) := by decide +kernel
theorem dX10_copy_133 : decode cX10_copy 133 = .ok (.lcmp, 1) := by decide +kernel
theorem dX10_copy_134 : decode cX10_copy 134 = .ok (.ifCond .gt 21, 3) := by decide +kernel
theorem dX10_copy_137 : decode cX10_copy 137 = .ok (.iload 4, 2) := by decide +kernel
theorem dX10_copy_139 : decode cX10_copy 139 = .ok (.i2l, 1) := by decide +kernel
theorem dX10_copy_140 : decode cX10_copy 140 = .ok (.iload 5, 2) := by decide +kernel
theorem dX10_copy_142 : decode cX10_copy 142 = .ok (.i2l, 1) := by decide +kernel
theorem dX10_copy_143 : decode cX10_copy 143 = .ok (.ladd, 1) := by decide +kernel
theorem dX10_copy_144 : decode cX10_copy 144 = .ok (.aload_n 0, 1) := by decide +kernel
theorem dX10_copy_145 : decode cX10_copy 145 = .ok (.getfield 40, 3) := by decide +kernel
theorem dX10_copy_148 : decode cX10_copy 148 = .ok (.iload_n 2, 1) := by decide +kernel
theorem dX10_copy_149 : decode cX10_copy 149 = .ok (.iaload, 1) := by decide +kernel
theorem dX10_copy_150 : decode cX10_copy 150 = .ok (.i2l, 1) := by decide +kernel
theorem dX10_copy_151 : decode cX10_copy 151 = .ok (.lcmp, 1) := by decide +kernel
theorem dX10_copy_152 : decode cX10_copy 152 = .ok (.ifCond .le 10, 3) := by decide +kernel
theorem dX10_copy_155 : decode cX10_copy 155 = .ok (.aload_n 0, 1) := by decide +kernel
theorem dX10_copy_156 : decode cX10_copy 156 = .ok (.bipush (-2), 2) := by decide +kernel
theorem dX10_copy_158 : decode cX10_copy 158 = .ok (.invokevirtual 96, 3) := by decide +kernel
theorem dX10_copy_161 : decode cX10_copy 161 = .ok (.ireturn, 1) := by decide +kernel
theorem dX10_copy_162 : decode cX10_copy 162 = .ok (.iload_n 1, 1) := by decide +kernel
theorem dX10_copy_163 : decode cX10_copy 163 = .ok (.iload_n 2, 1) := by decide +kernel
theorem dX10_copy_164 : decode cX10_copy 164 = .ok (.if_icmp .ne 58, 3) := by decide +kernel
theorem dX10_copy_167 : decode cX10_copy 167 = .ok (.iload_n 3, 1) := by decide +kernel
theorem dX10_copy_168 : decode cX10_copy 168 = .ok (.iload 4, 2) := by decide +kernel
theorem dX10_copy_170 : decode cX10_copy 170 = .ok (.if_icmp .ge 52, 3) := by decide +kernel
theorem dX10_copy_173 : decode cX10_copy 173 = .ok (.iload 5, 2) := by decide +kernel
theorem dX10_copy_175 : decode cX10_copy 175 = .ok (.iconst 1, 1) := by decide +kernel
theorem dX10_copy_176 : decode cX10_copy 176 = .ok (.isub, 1) := by decide +kernel
theorem dX10_copy_177 : decode cX10_copy 177 = .ok (.istore 6, 2) := by decide +kernel
theorem dX10_copy_179 : decode cX10_copy 179 = .ok (.iload 6, 2) := by decide +kernel
theorem dX10_copy_181 : decode cX10_copy 181 = .ok (.ifCond .lt 38, 3) := by decide +kernel
theorem dX10_copy_184 : decode cX10_copy 184 = .ok (.aload_n 0, 1) := by decide +kernel
theorem dX10_copy_185 : decode cX10_copy 185 = .ok (.getfield 43, 3) := by decide +kernel
theorem dX10_copy_188 : decode cX10_copy 188 = .ok (.bipush 40, 2) := by decide +kernel
theorem dX10_copy_190 : decode cX10_copy 190 = .ok (.iload_n 2, 1) := by decide +kernel
theorem dX10_copy_191 : decode cX10_copy 191 = .ok (.imul, 1) := by decide +kernel
theorem dX10_copy_192 : decode cX10_copy 192 = .ok (.iload 4, 2) := by decide +kernel
theorem dX10_copy_194 : decode cX10_copy 194 = .ok (.iadd, 1) := by decide +kernel
theorem dX10_copy_195 : decode cX10_copy 195 = .ok (.iload 6, 2) := by decide +kernel
theorem dX10_copy_197 : decode cX10_copy 197 = .ok (.iadd, 1) := by decide +kernel
theorem dX10_copy_198 : decode cX10_copy 198 = .ok (.aload_n 0, 1) := by decide +kernel
theorem dX10_copy_199 : decode cX10_copy 199 = .ok (.getfield 43, 3) := by decide +kernel
theorem dX10_copy_202 : decode cX10_copy 202 = .ok (.bipush 40, 2) := by decide +kernel
theorem dX10_copy_204 : decode cX10_copy 204 = .ok (.iload_n 1, 1) := by decide +kernel
theorem dX10_copy_205 : decode cX10_copy 205 = .ok (.imul, 1) := by decide +kernel
theorem dX10_copy_206 : decode cX10_copy 206 = .ok (.iload_n 3, 1) := by decide +kernel
theorem dX10_copy_207 : decode cX10_copy 207 = .ok (.iadd, 1) := by decide +kernel
theorem dX10_copy_208 : decode cX10_copy 208 = .ok (.iload 6, 2) := by decide +kernel
theorem dX10_copy_210 : decode cX10_copy 210 = .ok (.iadd, 1) := by decide +kernel
theorem dX10_copy_211 : decode cX10_copy 211 = .ok (.laload, 1) := by decide +kernel
theorem dX10_copy_212 : decode cX10_copy 212 = .ok (.lastore, 1) := by decide +kernel
theorem dX10_copy_213 : decode cX10_copy 213 = .ok (.iinc 6 (-1), 3) := by decide +kernel
theorem dX10_copy_216 : decode cX10_copy 216 = .ok (.goto (-37), 3) := by decide +kernel
theorem dX10_copy_219 : decode cX10_copy 219 = .ok (.goto 48, 3) := by decide +kernel
theorem dX10_copy_222 : decode cX10_copy 222 = .ok (.iconst 0, 1) := by decide +kernel
theorem dX10_copy_223 : decode cX10_copy 223 = .ok (.istore 6, 2) := by decide +kernel
theorem dX10_copy_225 : decode cX10_copy 225 = .ok (.iload 6, 2) := by decide +kernel
theorem dX10_copy_227 : decode cX10_copy 227 = .ok (.iload 5, 2) := by decide +kernel
theorem dX10_copy_229 : decode cX10_copy 229 = .ok (.if_icmp .ge 38, 3) := by decide +kernel
theorem dX10_copy_232 : decode cX10_copy 232 = .ok (.aload_n 0, 1) := by decide +kernel
theorem dX10_copy_233 : decode cX10_copy 233 = .ok (.getfield 43, 3) := by decide +kernel
theorem dX10_copy_236 : decode cX10_copy 236 = .ok (.bipush 40, 2) := by decide +kernel
theorem dX10_copy_238 : decode cX10_copy 238 = .ok (.iload_n 2, 1) := by decide +kernel
theorem dX10_copy_239 : decode cX10_copy 239 = .ok (.imul, 1) := by decide +kernel
theorem dX10_copy_240 : decode cX10_copy 240 = .ok (.iload 4, 2) := by decide +kernel
theorem dX10_copy_242 : decode cX10_copy 242 = .ok (.iadd, 1) := by decide +kernel
theorem dX10_copy_243 : decode cX10_copy 243 = .ok (.iload 6, 2) := by decide +kernel
theorem dX10_copy_245 : decode cX10_copy 245 = .ok (.iadd, 1) := by decide +kernel
theorem dX10_copy_246 : decode cX10_copy 246 = .ok (.aload_n 0, 1) := by decide +kernel
theorem dX10_copy_247 : decode cX10_copy 247 = .ok (.getfield 43, 3) := by decide +kernel
theorem dX10_copy_250 : decode cX10_copy 250 = .ok (.bipush 40, 2) := by decide +kernel
theorem dX10_copy_252 : decode cX10_copy 252 = .ok (.iload_n 1, 1) := by decide +kernel
theorem dX10_copy_253 : decode cX10_copy 253 = .ok (.imul, 1) := by decide +kernel
theorem dX10_copy_254 : decode cX10_copy 254 = .ok (.iload_n 3, 1) := by decide +kernel
theorem dX10_copy_255 : decode cX10_copy 255 = .ok (.iadd, 1) := by decide +kernel
theorem dX10_copy_256 : decode cX10_copy 256 = .ok (.iload 6, 2) := by decide +kernel
theorem dX10_copy_258 : decode cX10_copy 258 = .ok (.iadd, 1) := by decide +kernel
theorem dX10_copy_259 : decode cX10_copy 259 = .ok (.laload, 1) := by decide +kernel
theorem dX10_copy_260 : decode cX10_copy 260 = .ok (.lastore, 1) := by decide +kernel
theorem dX10_copy_261 : decode cX10_copy 261 = .ok (.iinc 6 1, 3) := by decide +kernel
theorem dX10_copy_264 : decode cX10_copy 264 = .ok (.goto (-39), 3) := by decide +kernel
theorem dX10_copy_267 : decode cX10_copy 267 = .ok (.iload 5, 2) := by decide +kernel
theorem dX10_copy_269 : decode cX10_copy 269 = .ok (.ireturn, 1) := by decide +kernel
theorem dX10_element_0 : decode cX10_element 0 = .ok (.iload_n 1, 1) := by decide +kernel
theorem dX10_element_1 : decode cX10_element 1 = .ok (.invokestatic 92, 3) := by decide +kernel
theorem dX10_element_4 : decode cX10_element 4 = .ok (.ifCond .eq 41, 3) := by decide +kernel
theorem dX10_element_7 : decode cX10_element 7 = .ok (.aload_n 0, 1) := by decide +kernel
theorem dX10_element_8 : decode cX10_element 8 = .ok (.iload_n 1, 1) := by decide +kernel
theorem dX10_element_9 : decode cX10_element 9 = .ok (.invokevirtual 100, 3) := by decide +kernel
theorem dX10_element_12 : decode cX10_element 12 = .ok (.ifCond .eq 33, 3) := by decide +kernel
theorem dX10_element_15 : decode cX10_element 15 = .ok (.iload_n 2, 1) := by decide +kernel
theorem dX10_element_16 : decode cX10_element 16 = .ok (.iconst 0, 1) := by decide +kernel
theorem dX10_element_17 : decode cX10_element 17 = .ok (.aload_n 0, 1) := by decide +kernel
theorem dX10_element_18 : decode cX10_element 18 = .ok (.getfield 40, 3) := by decide +kernel
theorem dX10_element_21 : decode cX10_element 21 = .ok (.iload_n 1, 1) := by decide +kernel
theorem dX10_element_22 : decode cX10_element 22 = .ok (.iaload, 1) := by decide +kernel
theorem dX10_element_23 : decode cX10_element 23 = .ok (.iconst 1, 1) := by decide +kernel
theorem dX10_element_24 : decode cX10_element 24 = .ok (.isub, 1) := by decide +kernel
theorem dX10_element_25 : decode cX10_element 25 = .ok (.invokestatic 85, 3) := by decide +kernel
theorem dX10_element_28 : decode cX10_element 28 = .ok (.ifCond .eq 17, 3) := by decide +kernel
theorem dX10_element_31 : decode cX10_element 31 = .ok (.aload_n 0, 1) := by decide +kernel
theorem dX10_element_32 : decode cX10_element 32 = .ok (.getfield 43, 3) := by decide +kernel
theorem dX10_element_35 : decode cX10_element 35 = .ok (.bipush 40, 2) := by decide +kernel
theorem dX10_element_37 : decode cX10_element 37 = .ok (.iload_n 1, 1) := by decide +kernel
theorem dX10_element_38 : decode cX10_element 38 = .ok (.imul, 1) := by decide +kernel
theorem dX10_element_39 : decode cX10_element 39 = .ok (.iload_n 2, 1) := by decide +kernel
theorem dX10_element_40 : decode cX10_element 40 = .ok (.iadd, 1) := by decide +kernel
theorem dX10_element_41 : decode cX10_element 41 = .ok (.laload, 1) := by decide +kernel
theorem dX10_element_42 : decode cX10_element 42 = .ok (.goto 4, 3) := by decide +kernel
theorem dX10_element_45 : decode cX10_element 45 = .ok (.lconst 0, 1) := by decide +kernel
theorem dX10_element_46 : decode cX10_element 46 = .ok (.lreturn, 1) := by decide +kernel
theorem dX10_holds_0 : decode cX10_holds 0 = .ok (.iload_n 1, 1) := by decide +kernel
theorem dX10_holds_1 : decode cX10_holds 1 = .ok (.invokestatic 92, 3) := by decide +kernel
theorem dX10_holds_4 : decode cX10_holds 4 = .ok (.ifCond .eq 12, 3) := by decide +kernel
theorem dX10_holds_7 : decode cX10_holds 7 = .ok (.aload_n 0, 1) := by decide +kernel
theorem dX10_holds_8 : decode cX10_holds 8 = .ok (.getfield 37, 3) := by decide +kernel
theorem dX10_holds_11 : decode cX10_holds 11 = .ok (.iload_n 1, 1) := by decide +kernel
theorem dX10_holds_12 : decode cX10_holds 12 = .ok (.iaload, 1) := by decide +kernel
theorem dX10_holds_13 : decode cX10_holds 13 = .ok (.goto 4, 3) := by decide +kernel
theorem dX10_holds_16 : decode cX10_holds 16 = .ok (.iconst (-1), 1) := by decide +kernel
theorem dX10_holds_17 : decode cX10_holds 17 = .ok (.ireturn, 1) := by decide +kernel
theorem dX10_show_0 : decode cX10_show 0 = .ok (.iload_n 1, 1) := by decide +kernel
theorem dX10_show_1 : decode cX10_show 1 = .ok (.invokestatic 92, 3) := by decide +kernel
theorem dX10_show_4 : decode cX10_show 4 = .ok (.ifCond .eq 16, 3) := by decide +kernel
theorem dX10_show_7 : decode cX10_show 7 = .ok (.iload_n 2, 1) := by decide +kernel
theorem dX10_show_8 : decode cX10_show 8 = .ok (.iconst (-1), 1) := by decide +kernel
theorem dX10_show_9 : decode cX10_show 9 = .ok (.if_icmp .eq 18, 3) := by decide +kernel
theorem dX10_show_12 : decode cX10_show 12 = .ok (.aload_n 0, 1) := by decide +kernel
theorem dX10_show_13 : decode cX10_show 13 = .ok (.iload_n 2, 1) := by decide +kernel
theorem dX10_show_14 : decode cX10_show 14 = .ok (.invokevirtual 110, 3) := by decide +kernel
theorem dX10_show_17 : decode cX10_show 17 = .ok (.ifCond .ne 10, 3) := by decide +kernel
theorem dX10_show_20 : decode cX10_show 20 = .ok (.aload_n 0, 1) := by decide +kernel
theorem dX10_show_21 : decode cX10_show 21 = .ok (.bipush (-2), 2) := by decide +kernel
theorem dX10_show_23 : decode cX10_show 23 = .ok (.invokevirtual 96, 3) := by decide +kernel
theorem dX10_show_26 : decode cX10_show 26 = .ok (.ireturn, 1) := by decide +kernel
theorem dX10_show_27 : decode cX10_show 27 = .ok (.aload_n 0, 1) := by decide +kernel
theorem dX10_show_28 : decode cX10_show 28 = .ok (.getfield 37, 3) := by decide +kernel
theorem dX10_show_31 : decode cX10_show 31 = .ok (.iload_n 1, 1) := by decide +kernel
theorem dX10_show_32 : decode cX10_show 32 = .ok (.iload_n 2, 1) := by decide +kernel
theorem dX10_show_33 : decode cX10_show 33 = .ok (.iconst (-1), 1) := by decide +kernel
theorem dX10_show_34 : decode cX10_show 34 = .ok (.if_icmp .ne 7, 3) := by decide +kernel
theorem dX10_show_37 : decode cX10_show 37 = .ok (.iconst (-1), 1) := by decide +kernel
theorem dX10_show_38 : decode cX10_show 38 = .ok (.goto 7, 3) := by decide +kernel
theorem dX10_show_41 : decode cX10_show 41 = .ok (.bipush 10, 2) := by decide +kernel
theorem dX10_show_43 : decode cX10_show 43 = .ok (.iload_n 2, 1) := by decide +kernel
theorem dX10_show_44 : decode cX10_show 44 = .ok (.iadd, 1) := by decide +kernel
theorem dX10_show_45 : decode cX10_show 45 = .ok (.iastore, 1) := by decide +kernel
theorem dX10_show_46 : decode cX10_show 46 = .ok (.iconst 1, 1) := by decide +kernel
theorem dX10_show_47 : decode cX10_show 47 = .ok (.ireturn, 1) := by decide +kernel
theorem dX10_isUnder_0 : decode cX10_isUnder 0 = .ok (.iload_n 1, 1) := by decide +kernel
theorem dX10_isUnder_1 : decode cX10_isUnder 1 = .ok (.ifCond .eq 28, 3) := by decide +kernel
theorem dX10_isUnder_4 : decode cX10_isUnder 4 = .ok (.iload_n 0, 1) := by decide +kernel
theorem dX10_isUnder_5 : decode cX10_isUnder 5 = .ok (.iload_n 1, 1) := by decide +kernel
theorem dX10_isUnder_6 : decode cX10_isUnder 6 = .ok (.if_icmp .eq 23, 3) := by decide +kernel
theorem dX10_isUnder_9 : decode cX10_isUnder 9 = .ok (.iload_n 0, 1) := by decide +kernel
theorem dX10_isUnder_10 : decode cX10_isUnder 10 = .ok (.iconst 3, 1) := by decide +kernel
theorem dX10_isUnder_11 : decode cX10_isUnder 11 = .ok (.if_icmp .ne 8, 3) := by decide +kernel
theorem dX10_isUnder_14 : decode cX10_isUnder 14 = .ok (.iload_n 1, 1) := by decide +kernel
theorem dX10_isUnder_15 : decode cX10_isUnder 15 = .ok (.iconst 1, 1) := by decide +kernel
theorem dX10_isUnder_16 : decode cX10_isUnder 16 = .ok (.if_icmp .eq 13, 3) := by decide +kernel
theorem dX10_isUnder_19 : decode cX10_isUnder 19 = .ok (.iload_n 0, 1) := by decide +kernel
theorem dX10_isUnder_20 : decode cX10_isUnder 20 = .ok (.iconst 4, 1) := by decide +kernel
theorem dX10_isUnder_21 : decode cX10_isUnder 21 = .ok (.if_icmp .ne 12, 3) := by decide +kernel
theorem dX10_isUnder_24 : decode cX10_isUnder 24 = .ok (.iload_n 1, 1) := by decide +kernel
theorem dX10_isUnder_25 : decode cX10_isUnder 25 = .ok (.iconst 2, 1) := by decide +kernel
theorem dX10_isUnder_26 : decode cX10_isUnder 26 = .ok (.if_icmp .ne 7, 3) := by decide +kernel
theorem dX10_isUnder_29 : decode cX10_isUnder 29 = .ok (.iconst 1, 1) := by decide +kernel
theorem dX10_isUnder_30 : decode cX10_isUnder 30 = .ok (.goto 4, 3) := by decide +kernel
theorem dX10_isUnder_33 : decode cX10_isUnder 33 = .ok (.iconst 0, 1) := by decide +kernel
theorem dX10_isUnder_34 : decode cX10_isUnder 34 = .ok (.ireturn, 1) := by decide +kernel
theorem dX10_says_0 : decode cX10_says 0 = .ok (.iload_n 1, 1) := by decide +kernel
theorem dX10_says_1 : decode cX10_says 1 = .ok (.invokestatic 92, 3) := by decide +kernel
theorem dX10_says_4 : decode cX10_says 4 = .ok (.ifCond .eq 12, 3) := by decide +kernel
theorem dX10_says_7 : decode cX10_says 7 = .ok (.iload_n 2, 1) := by decide +kernel
theorem dX10_says_8 : decode cX10_says 8 = .ok (.iconst 0, 1) := by decide +kernel
theorem dX10_says_9 : decode cX10_says 9 = .ok (.iconst 5, 1) := by decide +kernel
theorem dX10_says_10 : decode cX10_says 10 = .ok (.invokestatic 85, 3) := by decide +kernel
theorem dX10_says_13 : decode cX10_says 13 = .ok (.ifCond .ne 10, 3) := by decide +kernel
theorem dX10_says_16 : decode cX10_says 16 = .ok (.aload_n 0, 1) := by decide +kernel
theorem dX10_says_17 : decode cX10_says 17 = .ok (.bipush (-2), 2) := by decide +kernel
theorem dX10_says_19 : decode cX10_says 19 = .ok (.invokevirtual 96, 3) := by decide +kernel
theorem dX10_says_22 : decode cX10_says 22 = .ok (.ireturn, 1) := by decide +kernel
theorem dX10_says_23 : decode cX10_says 23 = .ok (.aload_n 0, 1) := by decide +kernel
theorem dX10_says_24 : decode cX10_says 24 = .ok (.iload_n 1, 1) := by decide +kernel
theorem dX10_says_25 : decode cX10_says 25 = .ok (.invokevirtual 100, 3) := by decide +kernel
theorem dX10_says_28 : decode cX10_says 28 = .ok (.ifCond .eq 10, 3) := by decide +kernel
theorem dX10_says_31 : decode cX10_says 31 = .ok (.aload_n 0, 1) := by decide +kernel
theorem dX10_says_32 : decode cX10_says 32 = .ok (.bipush (-3), 2) := by decide +kernel
theorem dX10_says_34 : decode cX10_says 34 = .ok (.invokevirtual 96, 3) := by decide +kernel
theorem dX10_says_37 : decode cX10_says 37 = .ok (.ireturn, 1) := by decide +kernel
theorem dX10_says_38 : decode cX10_says 38 = .ok (.aload_n 0, 1) := by decide +kernel
theorem dX10_says_39 : decode cX10_says 39 = .ok (.getfield 37, 3) := by decide +kernel
theorem dX10_says_42 : decode cX10_says 42 = .ok (.iload_n 1, 1) := by decide +kernel
theorem dX10_says_43 : decode cX10_says 43 = .ok (.iaload, 1) := by decide +kernel
theorem dX10_says_44 : decode cX10_says 44 = .ok (.ifCond .ge 10, 3) := by decide +kernel
theorem dX10_says_47 : decode cX10_says 47 = .ok (.aload_n 0, 1) := by decide +kernel
theorem dX10_says_48 : decode cX10_says 48 = .ok (.bipush (-4), 2) := by decide +kernel
theorem dX10_says_50 : decode cX10_says 50 = .ok (.invokevirtual 96, 3) := by decide +kernel
theorem dX10_says_53 : decode cX10_says 53 = .ok (.ireturn, 1) := by decide +kernel
theorem dX10_says_54 : decode cX10_says 54 = .ok (.aload_n 0, 1) := by decide +kernel
theorem dX10_says_55 : decode cX10_says 55 = .ok (.getfield 37, 3) := by decide +kernel
theorem dX10_says_58 : decode cX10_says 58 = .ok (.iload_n 1, 1) := by decide +kernel
theorem dX10_says_59 : decode cX10_says 59 = .ok (.iaload, 1) := by decide +kernel
theorem dX10_says_60 : decode cX10_says 60 = .ok (.bipush 10, 2) := by decide +kernel
theorem dX10_says_62 : decode cX10_says 62 = .ok (.isub, 1) := by decide +kernel
theorem dX10_says_63 : decode cX10_says 63 = .ok (.istore_n 3, 1) := by decide +kernel
theorem dX10_says_64 : decode cX10_says 64 = .ok (.aload_n 0, 1) := by decide +kernel
theorem dX10_says_65 : decode cX10_says 65 = .ok (.getfield 13, 3) := by decide +kernel
theorem dX10_says_68 : decode cX10_says 68 = .ok (.iload_n 3, 1) := by decide +kernel
theorem dX10_says_69 : decode cX10_says 69 = .ok (.iaload, 1) := by decide +kernel
theorem dX10_says_70 : decode cX10_says 70 = .ok (.iload_n 2, 1) := by decide +kernel
theorem dX10_says_71 : decode cX10_says 71 = .ok (.invokestatic 113, 3) := by decide +kernel
theorem dX10_says_74 : decode cX10_says 74 = .ok (.ifCond .ne 10, 3) := by decide +kernel
theorem dX10_says_77 : decode cX10_says 77 = .ok (.aload_n 0, 1) := by decide +kernel
theorem dX10_says_78 : decode cX10_says 78 = .ok (.bipush (-3), 2) := by decide +kernel
theorem dX10_says_80 : decode cX10_says 80 = .ok (.invokevirtual 96, 3) := by decide +kernel
theorem dX10_says_83 : decode cX10_says 83 = .ok (.ireturn, 1) := by decide +kernel
theorem dX10_says_84 : decode cX10_says 84 = .ok (.iload_n 2, 1) := by decide +kernel
theorem dX10_says_85 : decode cX10_says 85 = .ok (.ifCond .ne 10, 3) := by decide +kernel
theorem dX10_says_88 : decode cX10_says 88 = .ok (.aload_n 0, 1) := by decide +kernel
theorem dX10_says_89 : decode cX10_says 89 = .ok (.getfield 19, 3) := by decide +kernel
theorem dX10_says_92 : decode cX10_says 92 = .ok (.iload_n 3, 1) := by decide +kernel
theorem dX10_says_93 : decode cX10_says 93 = .ok (.iaload, 1) := by decide +kernel
theorem dX10_says_94 : decode cX10_says 94 = .ok (.ireturn, 1) := by decide +kernel
theorem dX10_says_95 : decode cX10_says 95 = .ok (.aload_n 0, 1) := by decide +kernel
theorem dX10_says_96 : decode cX10_says 96 = .ok (.iconst 1, 1) := by decide +kernel
theorem dX10_says_97 : decode cX10_says 97 = .ok (.iload_n 3, 1) := by decide +kernel
theorem dX10_says_98 : decode cX10_says 98 = .ok (.ishl, 1) := by decide +kernel
theorem dX10_says_99 : decode cX10_says 99 = .ok (.invokevirtual 117, 3) := by decide +kernel
theorem dX10_says_102 : decode cX10_says 102 = .ok (.aload_n 0, 1) := by decide +kernel
theorem dX10_says_103 : decode cX10_says 103 = .ok (.getfield 62, 3) := by decide +kernel
theorem dX10_says_106 : decode cX10_says 106 = .ok (.iload_n 3, 1) := by decide +kernel
theorem dX10_says_107 : decode cX10_says 107 = .ok (.iaload, 1) := by decide +kernel
theorem dX10_says_108 : decode cX10_says 108 = .ok (.ireturn, 1) := by decide +kernel
theorem dX10_place_0 : decode cX10_place 0 = .ok (.iload_n 1, 1) := by decide +kernel
theorem dX10_place_1 : decode cX10_place 1 = .ok (.invokestatic 121, 3) := by decide +kernel
theorem dX10_place_4 : decode cX10_place 4 = .ok (.ifCond .eq 13, 3) := by decide +kernel
theorem dX10_place_7 : decode cX10_place 7 = .ok (.iload_n 2, 1) := by decide +kernel
theorem dX10_place_8 : decode cX10_place 8 = .ok (.iconst (-1), 1) := by decide +kernel
theorem dX10_place_9 : decode cX10_place 9 = .ok (.bipush 7, 2) := by decide +kernel
theorem dX10_place_11 : decode cX10_place 11 = .ok (.invokestatic 85, 3) := by decide +kernel
theorem dX10_place_14 : decode cX10_place 14 = .ok (.ifCond .ne 10, 3) := by decide +kernel
theorem dX10_place_17 : decode cX10_place 17 = .ok (.aload_n 0, 1) := by decide +kernel
theorem dX10_place_18 : decode cX10_place 18 = .ok (.bipush (-2), 2) := by decide +kernel
theorem dX10_place_20 : decode cX10_place 20 = .ok (.invokevirtual 96, 3) := by decide +kernel
theorem dX10_place_23 : decode cX10_place 23 = .ok (.ireturn, 1) := by decide +kernel
theorem dX10_place_24 : decode cX10_place 24 = .ok (.aload_n 0, 1) := by decide +kernel
theorem dX10_place_25 : decode cX10_place 25 = .ok (.getfield 9, 3) := by decide +kernel
theorem dX10_place_28 : decode cX10_place 28 = .ok (.iload_n 1, 1) := by decide +kernel
theorem dX10_place_29 : decode cX10_place 29 = .ok (.iaload, 1) := by decide +kernel
theorem dX10_place_30 : decode cX10_place 30 = .ok (.istore_n 3, 1) := by decide +kernel
theorem dX10_place_31 : decode cX10_place 31 = .ok (.aload_n 0, 1) := by decide +kernel
theorem dX10_place_32 : decode cX10_place 32 = .ok (.getfield 9, 3) := by decide +kernel
theorem dX10_place_35 : decode cX10_place 35 = .ok (.iload_n 1, 1) := by decide +kernel
theorem dX10_place_36 : decode cX10_place 36 = .ok (.iload_n 2, 1) := by decide +kernel
theorem dX10_place_37 : decode cX10_place 37 = .ok (.iastore, 1) := by decide +kernel
theorem dX10_place_38 : decode cX10_place 38 = .ok (.iload_n 3, 1) := by decide +kernel
theorem dX10_place_39 : decode cX10_place 39 = .ok (.ireturn, 1) := by decide +kernel
theorem dX10_newLooker_0 : decode cX10_newLooker 0 = .ok (.aload_n 0, 1) := by decide +kernel
theorem dX10_newLooker_1 : decode cX10_newLooker 1 = .ok (.getfield 13, 3) := by decide +kernel
theorem dX10_newLooker_4 : decode cX10_newLooker 4 = .ok (.aload_n 0, 1) := by decide +kernel
theorem dX10_newLooker_5 : decode cX10_newLooker 5 = .ok (.getfield 89, 3) := by decide +kernel
theorem dX10_newLooker_8 : decode cX10_newLooker 8 = .ok (.iload_n 1, 1) := by decide +kernel
theorem dX10_newLooker_9 : decode cX10_newLooker 9 = .ok (.iastore, 1) := by decide +kernel
theorem dX10_newLooker_10 : decode cX10_newLooker 10 = .ok (.aload_n 0, 1) := by decide +kernel
theorem dX10_newLooker_11 : decode cX10_newLooker 11 = .ok (.getfield 16, 3) := by decide +kernel
theorem dX10_newLooker_14 : decode cX10_newLooker 14 = .ok (.aload_n 0, 1) := by decide +kernel
theorem dX10_newLooker_15 : decode cX10_newLooker 15 = .ok (.getfield 89, 3) := by decide +kernel
theorem dX10_newLooker_18 : decode cX10_newLooker 18 = .ok (.iload_n 2, 1) := by decide +kernel
theorem dX10_newLooker_19 : decode cX10_newLooker 19 = .ok (.iastore, 1) := by decide +kernel
theorem dX10_newLooker_20 : decode cX10_newLooker 20 = .ok (.aload_n 0, 1) := by decide +kernel
theorem dX10_newLooker_21 : decode cX10_newLooker 21 = .ok (.getfield 19, 3) := by decide +kernel
theorem dX10_newLooker_24 : decode cX10_newLooker 24 = .ok (.aload_n 0, 1) := by decide +kernel
theorem dX10_newLooker_25 : decode cX10_newLooker 25 = .ok (.getfield 89, 3) := by decide +kernel
theorem dX10_newLooker_28 : decode cX10_newLooker 28 = .ok (.iload_n 3, 1) := by decide +kernel
theorem dX10_newLooker_29 : decode cX10_newLooker 29 = .ok (.iastore, 1) := by decide +kernel
theorem dX10_newLooker_30 : decode cX10_newLooker 30 = .ok (.aload_n 0, 1) := by decide +kernel
theorem dX10_newLooker_31 : decode cX10_newLooker 31 = .ok (.getfield 22, 3) := by decide +kernel
theorem dX10_newLooker_34 : decode cX10_newLooker 34 = .ok (.aload_n 0, 1) := by decide +kernel
theorem dX10_newLooker_35 : decode cX10_newLooker 35 = .ok (.getfield 89, 3) := by decide +kernel
theorem dX10_newLooker_38 : decode cX10_newLooker 38 = .ok (.iconst 0, 1) := by decide +kernel
theorem dX10_newLooker_39 : decode cX10_newLooker 39 = .ok (.iastore, 1) := by decide +kernel
theorem dX10_newLooker_40 : decode cX10_newLooker 40 = .ok (.aload_n 0, 1) := by decide +kernel
theorem dX10_newLooker_41 : decode cX10_newLooker 41 = .ok (.getfield 25, 3) := by decide +kernel
theorem dX10_newLooker_44 : decode cX10_newLooker 44 = .ok (.aload_n 0, 1) := by decide +kernel
theorem dX10_newLooker_45 : decode cX10_newLooker 45 = .ok (.getfield 89, 3) := by decide +kernel
theorem dX10_newLooker_48 : decode cX10_newLooker 48 = .ok (.bipush 6, 2) := by decide +kernel
theorem dX10_newLooker_50 : decode cX10_newLooker 50 = .ok (.iastore, 1) := by decide +kernel
theorem dX10_newLooker_51 : decode cX10_newLooker 51 = .ok (.aload_n 0, 1) := by decide +kernel
theorem dX10_newLooker_52 : decode cX10_newLooker 52 = .ok (.getfield 28, 3) := by decide +kernel
theorem dX10_newLooker_55 : decode cX10_newLooker 55 = .ok (.aload_n 0, 1) := by decide +kernel
theorem dX10_newLooker_56 : decode cX10_newLooker 56 = .ok (.getfield 89, 3) := by decide +kernel
theorem dX10_newLooker_59 : decode cX10_newLooker 59 = .ok (.iconst (-1), 1) := by decide +kernel
theorem dX10_newLooker_60 : decode cX10_newLooker 60 = .ok (.iastore, 1) := by decide +kernel
theorem dX10_newLooker_61 : decode cX10_newLooker 61 = .ok (.iconst 0, 1) := by decide +kernel
theorem dX10_newLooker_62 : decode cX10_newLooker 62 = .ok (.istore 4, 2) := by decide +kernel
theorem dX10_newLooker_64 : decode cX10_newLooker 64 = .ok (.iload 4, 2) := by decide +kernel
theorem dX10_newLooker_66 : decode cX10_newLooker 66 = .ok (.bipush 8, 2) := by decide +kernel
theorem dX10_newLooker_68 : decode cX10_newLooker 68 = .ok (.if_icmp .ge 25, 3) := by decide +kernel
theorem dX10_newLooker_71 : decode cX10_newLooker 71 = .ok (.aload_n 0, 1) := by decide +kernel
theorem dX10_newLooker_72 : decode cX10_newLooker 72 = .ok (.getfield 31, 3) := by decide +kernel
theorem dX10_newLooker_75 : decode cX10_newLooker 75 = .ok (.bipush 8, 2) := by decide +kernel
theorem dX10_newLooker_77 : decode cX10_newLooker 77 = .ok (.aload_n 0, 1) := by decide +kernel
theorem dX10_newLooker_78 : decode cX10_newLooker 78 = .ok (.getfield 89, 3) := by decide +kernel
theorem dX10_newLooker_81 : decode cX10_newLooker 81 = .ok (.imul, 1) := by decide +kernel
theorem dX10_newLooker_82 : decode cX10_newLooker 82 = .ok (.iload 4, 2) := by decide +kernel
theorem dX10_newLooker_84 : decode cX10_newLooker 84 = .ok (.iadd, 1) := by decide +kernel
theorem dX10_newLooker_85 : decode cX10_newLooker 85 = .ok (.iconst 0, 1) := by decide +kernel
theorem dX10_newLooker_86 : decode cX10_newLooker 86 = .ok (.iastore, 1) := by decide +kernel
theorem dX10_newLooker_87 : decode cX10_newLooker 87 = .ok (.iinc 4 1, 3) := by decide +kernel
theorem dX10_newLooker_90 : decode cX10_newLooker 90 = .ok (.goto (-26), 3) := by decide +kernel
theorem dX10_newLooker_93 : decode cX10_newLooker 93 = .ok (.aload_n 0, 1) := by decide +kernel
theorem dX10_newLooker_94 : decode cX10_newLooker 94 = .ok (.dup, 1) := by decide +kernel
theorem dX10_newLooker_95 : decode cX10_newLooker 95 = .ok (.getfield 89, 3) := by decide +kernel
theorem dX10_newLooker_98 : decode cX10_newLooker 98 = .ok (.dup_x1, 1) := by decide +kernel
theorem dX10_newLooker_99 : decode cX10_newLooker 99 = .ok (.iconst 1, 1) := by decide +kernel
theorem dX10_newLooker_100 : decode cX10_newLooker 100 = .ok (.iadd, 1) := by decide +kernel
theorem dX10_newLooker_101 : decode cX10_newLooker 101 = .ok (.putfield 89, 3) := by decide +kernel
theorem dX10_newLooker_104 : decode cX10_newLooker 104 = .ok (.ireturn, 1) := by decide +kernel
theorem dX10_looker_0 : decode cX10_looker 0 = .ok (.iload_n 1, 1) := by decide +kernel
theorem dX10_looker_1 : decode cX10_looker 1 = .ok (.iconst 0, 1) := by decide +kernel
theorem dX10_looker_2 : decode cX10_looker 2 = .ok (.iconst 5, 1) := by decide +kernel
theorem dX10_looker_3 : decode cX10_looker 3 = .ok (.invokestatic 85, 3) := by decide +kernel
theorem dX10_looker_6 : decode cX10_looker 6 = .ok (.ifCond .eq 20, 3) := by decide +kernel
theorem dX10_looker_9 : decode cX10_looker 9 = .ok (.iload_n 2, 1) := by decide +kernel
theorem dX10_looker_10 : decode cX10_looker 10 = .ok (.invokestatic 124, 3) := by decide +kernel
theorem dX10_looker_13 : decode cX10_looker 13 = .ok (.ifCond .eq 13, 3) := by decide +kernel
theorem dX10_looker_16 : decode cX10_looker 16 = .ok (.iload_n 3, 1) := by decide +kernel
theorem dX10_looker_17 : decode cX10_looker 17 = .ok (.iconst 0, 1) := by decide +kernel
theorem dX10_looker_18 : decode cX10_looker 18 = .ok (.bipush 99, 2) := by decide +kernel
theorem dX10_looker_20 : decode cX10_looker 20 = .ok (.invokestatic 85, 3) := by decide +kernel
theorem dX10_looker_23 : decode cX10_looker 23 = .ok (.ifCond .ne 10, 3) := by decide +kernel
theorem dX10_looker_26 : decode cX10_looker 26 = .ok (.aload_n 0, 1) := by decide +kernel
theorem dX10_looker_27 : decode cX10_looker 27 = .ok (.bipush (-2), 2) := by decide +kernel
theorem dX10_looker_29 : decode cX10_looker 29 = .ok (.invokevirtual 96, 3) := by decide +kernel
theorem dX10_looker_32 : decode cX10_looker 32 = .ok (.ireturn, 1) := by decide +kernel
theorem dX10_looker_33 : decode cX10_looker 33 = .ok (.aload_n 0, 1) := by decide +kernel
theorem dX10_looker_34 : decode cX10_looker 34 = .ok (.getfield 89, 3) := by decide +kernel
theorem dX10_looker_37 : decode cX10_looker 37 = .ok (.bipush 8, 2) := by decide +kernel
theorem dX10_looker_39 : decode cX10_looker 39 = .ok (.if_icmp .ne 12, 3) := by decide +kernel
theorem dX10_looker_42 : decode cX10_looker 42 = .ok (.aload_n 0, 1) := by decide +kernel
theorem dX10_looker_43 : decode cX10_looker 43 = .ok (.bipush (-6), 2) := by decide +kernel
theorem dX10_looker_45 : decode cX10_looker 45 = .ok (.invokevirtual 96, 3) := by decide +kernel
theorem dX10_looker_48 : decode cX10_looker 48 = .ok (.goto 10, 3) := by decide +kernel
theorem dX10_looker_51 : decode cX10_looker 51 = .ok (.aload_n 0, 1) := by decide +kernel
theorem dX10_looker_52 : decode cX10_looker 52 = .ok (.iload_n 1, 1) := by decide +kernel
theorem dX10_looker_53 : decode cX10_looker 53 = .ok (.iload_n 2, 1) := by decide +kernel
theorem dX10_looker_54 : decode cX10_looker 54 = .ok (.iload_n 3, 1) := by decide +kernel
theorem dX10_looker_55 : decode cX10_looker 55 = .ok (.invokevirtual 127, 3) := by decide +kernel
theorem dX10_looker_58 : decode cX10_looker 58 = .ok (.ireturn, 1) := by decide +kernel
theorem dX10_likes_0 : decode cX10_likes 0 = .ok (.aload_n 0, 1) := by decide +kernel
theorem dX10_likes_1 : decode cX10_likes 1 = .ok (.iload_n 1, 1) := by decide +kernel
theorem dX10_likes_2 : decode cX10_likes 2 = .ok (.invokevirtual 110, 3) := by decide +kernel
theorem dX10_likes_5 : decode cX10_likes 5 = .ok (.ifCond .eq 10, 3) := by decide +kernel
theorem dX10_likes_8 : decode cX10_likes 8 = .ok (.iload_n 2, 1) := by decide +kernel
theorem dX10_likes_9 : decode cX10_likes 9 = .ok (.invokestatic 124, 3) := by decide +kernel
theorem dX10_likes_12 : decode cX10_likes 12 = .ok (.ifCond .ne 10, 3) := by decide +kernel
theorem dX10_likes_15 : decode cX10_likes 15 = .ok (.aload_n 0, 1) := by decide +kernel
theorem dX10_likes_16 : decode cX10_likes 16 = .ok (.bipush (-2), 2) := by decide +kernel
theorem dX10_likes_18 : decode cX10_likes 18 = .ok (.invokevirtual 96, 3) := by decide +kernel
theorem dX10_likes_21 : decode cX10_likes 21 = .ok (.ireturn, 1) := by decide +kernel
theorem dX10_likes_22 : decode cX10_likes 22 = .ok (.aload_n 0, 1) := by decide +kernel
theorem dX10_likes_23 : decode cX10_likes 23 = .ok (.getfield 22, 3) := by decide +kernel
theorem dX10_likes_26 : decode cX10_likes 26 = .ok (.iload_n 1, 1) := by decide +kernel
theorem dX10_likes_27 : decode cX10_likes 27 = .ok (.iaload, 1) := by decide +kernel
theorem dX10_likes_28 : decode cX10_likes 28 = .ok (.iload_n 2, 1) := by decide +kernel
theorem dX10_likes_29 : decode cX10_likes 29 = .ok (.ishr, 1) := by decide +kernel
theorem dX10_likes_30 : decode cX10_likes 30 = .ok (.iconst 1, 1) := by decide +kernel
theorem dX10_likes_31 : decode cX10_likes 31 = .ok (.iand, 1) := by decide +kernel
theorem dX10_likes_32 : decode cX10_likes 32 = .ok (.istore 4, 2) := by decide +kernel
theorem dX10_likes_34 : decode cX10_likes 34 = .ok (.aload_n 0, 1) := by decide +kernel
theorem dX10_likes_35 : decode cX10_likes 35 = .ok (.getfield 22, 3) := by decide +kernel
theorem dX10_likes_38 : decode cX10_likes 38 = .ok (.iload_n 1, 1) := by decide +kernel
theorem dX10_likes_39 : decode cX10_likes 39 = .ok (.iload_n 3, 1) := by decide +kernel
theorem dX10_likes_40 : decode cX10_likes 40 = .ok (.ifCond .eq 16, 3) := by decide +kernel
theorem dX10_likes_43 : decode cX10_likes 43 = .ok (.aload_n 0, 1) := by decide +kernel
theorem dX10_likes_44 : decode cX10_likes 44 = .ok (.getfield 22, 3) := by decide +kernel
theorem dX10_likes_47 : decode cX10_likes 47 = .ok (.iload_n 1, 1) := by decide +kernel
theorem dX10_likes_48 : decode cX10_likes 48 = .ok (.iaload, 1) := by decide +kernel
theorem dX10_likes_49 : decode cX10_likes 49 = .ok (.iconst 1, 1) := by decide +kernel
theorem dX10_likes_50 : decode cX10_likes 50 = .ok (.iload_n 2, 1) := by decide +kernel
theorem dX10_likes_51 : decode cX10_likes 51 = .ok (.ishl, 1) := by decide +kernel
theorem dX10_likes_52 : decode cX10_likes 52 = .ok (.ior, 1) := by decide +kernel
theorem dX10_likes_53 : decode cX10_likes 53 = .ok (.goto 15, 3) := by decide +kernel
theorem dX10_likes_56 : decode cX10_likes 56 = .ok (.aload_n 0, 1) := by decide +kernel
theorem dX10_likes_57 : decode cX10_likes 57 = .ok (.getfield 22, 3) := by decide +kernel
theorem dX10_likes_60 : decode cX10_likes 60 = .ok (.iload_n 1, 1) := by decide +kernel
theorem dX10_likes_61 : decode cX10_likes 61 = .ok (.iaload, 1) := by decide +kernel
theorem dX10_likes_62 : decode cX10_likes 62 = .ok (.iconst 1, 1) := by decide +kernel
theorem dX10_likes_63 : decode cX10_likes 63 = .ok (.iload_n 2, 1) := by decide +kernel
theorem dX10_likes_64 : decode cX10_likes 64 = .ok (.ishl, 1) := by decide +kernel
theorem dX10_likes_65 : decode cX10_likes 65 = .ok (.iconst (-1), 1) := by decide +kernel
theorem dX10_likes_66 : decode cX10_likes 66 = .ok (.ixor, 1) := by decide +kernel
theorem dX10_likes_67 : decode cX10_likes 67 = .ok (.iand, 1) := by decide +kernel
theorem dX10_likes_68 : decode cX10_likes 68 = .ok (.iastore, 1) := by decide +kernel
theorem dX10_likes_69 : decode cX10_likes 69 = .ok (.iload 4, 2) := by decide +kernel
theorem dX10_likes_71 : decode cX10_likes 71 = .ok (.ireturn, 1) := by decide +kernel
theorem dX10_tell_0 : decode cX10_tell 0 = .ok (.aload_n 0, 1) := by decide +kernel
theorem dX10_tell_1 : decode cX10_tell 1 = .ok (.iload_n 1, 1) := by decide +kernel
theorem dX10_tell_2 : decode cX10_tell 2 = .ok (.invokevirtual 110, 3) := by decide +kernel
theorem dX10_tell_5 : decode cX10_tell 5 = .ok (.ifCond .eq 12, 3) := by decide +kernel
theorem dX10_tell_8 : decode cX10_tell 8 = .ok (.iload_n 2, 1) := by decide +kernel
theorem dX10_tell_9 : decode cX10_tell 9 = .ok (.iconst 0, 1) := by decide +kernel
theorem dX10_tell_10 : decode cX10_tell 10 = .ok (.iconst 2, 1) := by decide +kernel
theorem dX10_tell_11 : decode cX10_tell 11 = .ok (.invokestatic 85, 3) := by decide +kernel
theorem dX10_tell_14 : decode cX10_tell 14 = .ok (.ifCond .ne 10, 3) := by decide +kernel
theorem dX10_tell_17 : decode cX10_tell 17 = .ok (.aload_n 0, 1) := by decide +kernel
theorem dX10_tell_18 : decode cX10_tell 18 = .ok (.bipush (-2), 2) := by decide +kernel
theorem dX10_tell_20 : decode cX10_tell 20 = .ok (.invokevirtual 96, 3) := by decide +kernel
theorem dX10_tell_23 : decode cX10_tell 23 = .ok (.ireturn, 1) := by decide +kernel
theorem dX10_tell_24 : decode cX10_tell 24 = .ok (.iload_n 3, 1) := by decide +kernel
theorem dX10_tell_25 : decode cX10_tell 25 = .ok (.iload_n 2, 1) := by decide +kernel
theorem dX10_tell_26 : decode cX10_tell 26 = .ok (.iconst 2, 1) := by decide +kernel
theorem dX10_tell_27 : decode cX10_tell 27 = .ok (.if_icmp .ne 7, 3) := by decide +kernel
theorem dX10_tell_30 : decode cX10_tell 30 = .ok (.iconst (-1), 1) := by decide +kernel
theorem dX10_tell_31 : decode cX10_tell 31 = .ok (.goto 4, 3) := by decide +kernel
theorem dX10_tell_34 : decode cX10_tell 34 = .ok (.iconst 0, 1) := by decide +kernel
theorem dX10_tell_35 : decode cX10_tell 35 = .ok (.iload_n 2, 1) := by decide +kernel
theorem dX10_tell_36 : decode cX10_tell 36 = .ok (.ifCond .ne 8, 3) := by decide +kernel
theorem dX10_tell_39 : decode cX10_tell 39 = .ok (.bipush 12, 2) := by decide +kernel
theorem dX10_tell_41 : decode cX10_tell 41 = .ok (.goto 15, 3) := by decide +kernel
theorem dX10_tell_44 : decode cX10_tell 44 = .ok (.iload_n 2, 1) := by decide +kernel
theorem dX10_tell_45 : decode cX10_tell 45 = .ok (.iconst 1, 1) := by decide +kernel
theorem dX10_tell_46 : decode cX10_tell 46 = .ok (.if_icmp .ne 8, 3) := by decide +kernel
theorem dX10_tell_49 : decode cX10_tell 49 = .ok (.bipush 99, 2) := by decide +kernel
theorem dX10_tell_51 : decode cX10_tell 51 = .ok (.goto 5, 3) := by decide +kernel
theorem dX10_tell_54 : decode cX10_tell 54 = .ok (.bipush 7, 2) := by decide +kernel
theorem dX10_tell_56 : decode cX10_tell 56 = .ok (.invokestatic 85, 3) := by decide +kernel
theorem dX10_tell_59 : decode cX10_tell 59 = .ok (.ifCond .ne 10, 3) := by decide +kernel
theorem dX10_tell_62 : decode cX10_tell 62 = .ok (.aload_n 0, 1) := by decide +kernel
theorem dX10_tell_63 : decode cX10_tell 63 = .ok (.bipush (-2), 2) := by decide +kernel
theorem dX10_tell_65 : decode cX10_tell 65 = .ok (.invokevirtual 96, 3) := by decide +kernel
theorem dX10_tell_68 : decode cX10_tell 68 = .ok (.ireturn, 1) := by decide +kernel
theorem dX10_tell_69 : decode cX10_tell 69 = .ok (.iload_n 2, 1) := by decide +kernel
theorem dX10_tell_70 : decode cX10_tell 70 = .ok (.ifCond .ne 12, 3) := by decide +kernel
theorem dX10_tell_73 : decode cX10_tell 73 = .ok (.aload_n 0, 1) := by decide +kernel
theorem dX10_tell_74 : decode cX10_tell 74 = .ok (.getfield 25, 3) := by decide +kernel
theorem dX10_tell_77 : decode cX10_tell 77 = .ok (.iload_n 1, 1) := by decide +kernel
theorem dX10_tell_78 : decode cX10_tell 78 = .ok (.iaload, 1) := by decide +kernel
theorem dX10_tell_79 : decode cX10_tell 79 = .ok (.goto 23, 3) := by decide +kernel
theorem dX10_tell_82 : decode cX10_tell 82 = .ok (.iload_n 2, 1) := by decide +kernel
theorem dX10_tell_83 : decode cX10_tell 83 = .ok (.iconst 1, 1) := by decide +kernel
theorem dX10_tell_84 : decode cX10_tell 84 = .ok (.if_icmp .ne 12, 3) := by decide +kernel
theorem dX10_tell_87 : decode cX10_tell 87 = .ok (.aload_n 0, 1) := by decide +kernel
theorem dX10_tell_88 : decode cX10_tell 88 = .ok (.getfield 19, 3) := by decide +kernel
theorem dX10_tell_91 : decode cX10_tell 91 = .ok (.iload_n 1, 1) := by decide +kernel
theorem dX10_tell_92 : decode cX10_tell 92 = .ok (.iaload, 1) := by decide +kernel
theorem dX10_tell_93 : decode cX10_tell 93 = .ok (.goto 9, 3) := by decide +kernel
theorem dX10_tell_96 : decode cX10_tell 96 = .ok (.aload_n 0, 1) := by decide +kernel
theorem dX10_tell_97 : decode cX10_tell 97 = .ok (.getfield 28, 3) := by decide +kernel
theorem dX10_tell_100 : decode cX10_tell 100 = .ok (.iload_n 1, 1) := by decide +kernel
theorem dX10_tell_101 : decode cX10_tell 101 = .ok (.iaload, 1) := by decide +kernel
theorem dX10_tell_102 : decode cX10_tell 102 = .ok (.istore 4, 2) := by decide +kernel
theorem dX10_tell_104 : decode cX10_tell 104 = .ok (.iload_n 2, 1) := by decide +kernel
theorem dX10_tell_105 : decode cX10_tell 105 = .ok (.ifCond .ne 13, 3) := by decide +kernel
theorem dX10_tell_108 : decode cX10_tell 108 = .ok (.aload_n 0, 1) := by decide +kernel
theorem dX10_tell_109 : decode cX10_tell 109 = .ok (.getfield 25, 3) := by decide +kernel
theorem dX10_tell_112 : decode cX10_tell 112 = .ok (.iload_n 1, 1) := by decide +kernel
theorem dX10_tell_113 : decode cX10_tell 113 = .ok (.iload_n 3, 1) := by decide +kernel
theorem dX10_tell_114 : decode cX10_tell 114 = .ok (.iastore, 1) := by decide +kernel
theorem dX10_tell_115 : decode cX10_tell 115 = .ok (.goto 25, 3) := by decide +kernel
theorem dX10_tell_118 : decode cX10_tell 118 = .ok (.iload_n 2, 1) := by decide +kernel
theorem dX10_tell_119 : decode cX10_tell 119 = .ok (.iconst 1, 1) := by decide +kernel
theorem dX10_tell_120 : decode cX10_tell 120 = .ok (.if_icmp .ne 13, 3) := by decide +kernel
theorem dX10_tell_123 : decode cX10_tell 123 = .ok (.aload_n 0, 1) := by decide +kernel
theorem dX10_tell_124 : decode cX10_tell 124 = .ok (.getfield 19, 3) := by decide +kernel
theorem dX10_tell_127 : decode cX10_tell 127 = .ok (.iload_n 1, 1) := by decide +kernel
theorem dX10_tell_128 : decode cX10_tell 128 = .ok (.iload_n 3, 1) := by decide +kernel
theorem dX10_tell_129 : decode cX10_tell 129 = .ok (.iastore, 1) := by decide +kernel
theorem dX10_tell_130 : decode cX10_tell 130 = .ok (.goto 10, 3) := by decide +kernel
theorem dX10_tell_133 : decode cX10_tell 133 = .ok (.aload_n 0, 1) := by decide +kernel
theorem dX10_tell_134 : decode cX10_tell 134 = .ok (.getfield 28, 3) := by decide +kernel
theorem dX10_tell_137 : decode cX10_tell 137 = .ok (.iload_n 1, 1) := by decide +kernel
theorem dX10_tell_138 : decode cX10_tell 138 = .ok (.iload_n 3, 1) := by decide +kernel
theorem dX10_tell_139 : decode cX10_tell 139 = .ok (.iastore, 1) := by decide +kernel
theorem dX10_tell_140 : decode cX10_tell 140 = .ok (.iload 4, 2) := by decide +kernel
theorem dX10_tell_142 : decode cX10_tell 142 = .ok (.ireturn, 1) := by decide +kernel
theorem dX10_feed_0 : decode cX10_feed 0 = .ok (.iload_n 1, 1) := by decide +kernel
theorem dX10_feed_1 : decode cX10_feed 1 = .ok (.iconst 0, 1) := by decide +kernel
theorem dX10_feed_2 : decode cX10_feed 2 = .ok (.sipush 255, 3) := by decide +kernel
theorem dX10_feed_5 : decode cX10_feed 5 = .ok (.invokestatic 85, 3) := by decide +kernel
theorem dX10_feed_8 : decode cX10_feed 8 = .ok (.ifCond .ne 10, 3) := by decide +kernel
theorem dX10_feed_11 : decode cX10_feed 11 = .ok (.aload_n 0, 1) := by decide +kernel
theorem dX10_feed_12 : decode cX10_feed 12 = .ok (.bipush (-2), 2) := by decide +kernel
theorem dX10_feed_14 : decode cX10_feed 14 = .ok (.invokevirtual 96, 3) := by decide +kernel
theorem dX10_feed_17 : decode cX10_feed 17 = .ok (.ireturn, 1) := by decide +kernel
theorem dX10_feed_18 : decode cX10_feed 18 = .ok (.aload_n 0, 1) := by decide +kernel
theorem dX10_feed_19 : decode cX10_feed 19 = .ok (.getfield 131, 3) := by decide +kernel
theorem dX10_feed_22 : decode cX10_feed 22 = .ok (.sipush 250, 3) := by decide +kernel
theorem dX10_feed_25 : decode cX10_feed 25 = .ok (.if_icmp .ne 10, 3) := by decide +kernel
theorem dX10_feed_28 : decode cX10_feed 28 = .ok (.aload_n 0, 1) := by decide +kernel
theorem dX10_feed_29 : decode cX10_feed 29 = .ok (.bipush (-6), 2) := by decide +kernel
theorem dX10_feed_31 : decode cX10_feed 31 = .ok (.invokevirtual 96, 3) := by decide +kernel
theorem dX10_feed_34 : decode cX10_feed 34 = .ok (.ireturn, 1) := by decide +kernel
theorem dX10_feed_35 : decode cX10_feed 35 = .ok (.aload_n 0, 1) := by decide +kernel
theorem dX10_feed_36 : decode cX10_feed 36 = .ok (.getfield 34, 3) := by decide +kernel
theorem dX10_feed_39 : decode cX10_feed 39 = .ok (.aload_n 0, 1) := by decide +kernel
theorem dX10_feed_40 : decode cX10_feed 40 = .ok (.dup, 1) := by decide +kernel
theorem dX10_feed_41 : decode cX10_feed 41 = .ok (.getfield 131, 3) := by decide +kernel
theorem dX10_feed_44 : decode cX10_feed 44 = .ok (.dup_x1, 1) := by decide +kernel
theorem dX10_feed_45 : decode cX10_feed 45 = .ok (.iconst 1, 1) := by decide +kernel
theorem dX10_feed_46 : decode cX10_feed 46 = .ok (.iadd, 1) := by decide +kernel
theorem dX10_feed_47 : decode cX10_feed 47 = .ok (.putfield 131, 3) := by decide +kernel
theorem dX10_feed_50 : decode cX10_feed 50 = .ok (.iload_n 1, 1) := by decide +kernel
theorem dX10_feed_51 : decode cX10_feed 51 = .ok (.iastore, 1) := by decide +kernel
theorem dX10_feed_52 : decode cX10_feed 52 = .ok (.aload_n 0, 1) := by decide +kernel
theorem dX10_feed_53 : decode cX10_feed 53 = .ok (.getfield 131, 3) := by decide +kernel
theorem dX10_feed_56 : decode cX10_feed 56 = .ok (.ireturn, 1) := by decide +kernel
theorem dX10_wipe_0 : decode cX10_wipe 0 = .ok (.aload_n 0, 1) := by decide +kernel
theorem dX10_wipe_1 : decode cX10_wipe 1 = .ok (.getfield 131, 3) := by decide +kernel
theorem dX10_wipe_4 : decode cX10_wipe 4 = .ok (.istore_n 1, 1) := by decide +kernel
theorem dX10_wipe_5 : decode cX10_wipe 5 = .ok (.aload_n 0, 1) := by decide +kernel
theorem dX10_wipe_6 : decode cX10_wipe 6 = .ok (.iconst 0, 1) := by decide +kernel
theorem dX10_wipe_7 : decode cX10_wipe 7 = .ok (.putfield 131, 3) := by decide +kernel
theorem dX10_wipe_10 : decode cX10_wipe 10 = .ok (.iload_n 1, 1) := by decide +kernel
theorem dX10_wipe_11 : decode cX10_wipe 11 = .ok (.ireturn, 1) := by decide +kernel
theorem dX10_isLetter_0 : decode cX10_isLetter 0 = .ok (.iload_n 0, 1) := by decide +kernel
theorem dX10_isLetter_1 : decode cX10_isLetter 1 = .ok (.bipush 97, 2) := by decide +kernel
theorem dX10_isLetter_3 : decode cX10_isLetter 3 = .ok (.if_icmp .lt 13, 3) := by decide +kernel
theorem dX10_isLetter_6 : decode cX10_isLetter 6 = .ok (.iload_n 0, 1) := by decide +kernel
theorem dX10_isLetter_7 : decode cX10_isLetter 7 = .ok (.bipush 122, 2) := by decide +kernel
theorem dX10_isLetter_9 : decode cX10_isLetter 9 = .ok (.if_icmp .gt 7, 3) := by decide +kernel
theorem dX10_isLetter_12 : decode cX10_isLetter 12 = .ok (.iconst 1, 1) := by decide +kernel
theorem dX10_isLetter_13 : decode cX10_isLetter 13 = .ok (.goto 4, 3) := by decide +kernel
theorem dX10_isLetter_16 : decode cX10_isLetter 16 = .ok (.iconst 0, 1) := by decide +kernel
theorem dX10_isLetter_17 : decode cX10_isLetter 17 = .ok (.ireturn, 1) := by decide +kernel
theorem dX10_isDigit_0 : decode cX10_isDigit 0 = .ok (.iload_n 0, 1) := by decide +kernel
theorem dX10_isDigit_1 : decode cX10_isDigit 1 = .ok (.bipush 48, 2) := by decide +kernel
theorem dX10_isDigit_3 : decode cX10_isDigit 3 = .ok (.if_icmp .lt 13, 3) := by decide +kernel
theorem dX10_isDigit_6 : decode cX10_isDigit 6 = .ok (.iload_n 0, 1) := by decide +kernel
theorem dX10_isDigit_7 : decode cX10_isDigit 7 = .ok (.bipush 57, 2) := by decide +kernel
theorem dX10_isDigit_9 : decode cX10_isDigit 9 = .ok (.if_icmp .gt 7, 3) := by decide +kernel
theorem dX10_isDigit_12 : decode cX10_isDigit 12 = .ok (.iconst 1, 1) := by decide +kernel
theorem dX10_isDigit_13 : decode cX10_isDigit 13 = .ok (.goto 4, 3) := by decide +kernel
theorem dX10_isDigit_16 : decode cX10_isDigit 16 = .ok (.iconst 0, 1) := by decide +kernel
theorem dX10_isDigit_17 : decode cX10_isDigit 17 = .ok (.ireturn, 1) := by decide +kernel
theorem dX10_next_0 : decode cX10_next 0 = .ok (.aload_n 0, 1) := by decide +kernel
theorem dX10_next_1 : decode cX10_next 1 = .ok (.aload_n 0, 1) := by decide +kernel
theorem dX10_next_2 : decode cX10_next 2 = .ok (.getfield 134, 3) := by decide +kernel
theorem dX10_next_5 : decode cX10_next 5 = .ok (.putfield 137, 3) := by decide +kernel
theorem dX10_next_8 : decode cX10_next 8 = .ok (.aload_n 0, 1) := by decide +kernel
theorem dX10_next_9 : decode cX10_next 9 = .ok (.getfield 137, 3) := by decide +kernel
theorem dX10_next_12 : decode cX10_next 12 = .ok (.aload_n 0, 1) := by decide +kernel
theorem dX10_next_13 : decode cX10_next 13 = .ok (.getfield 131, 3) := by decide +kernel
theorem dX10_next_16 : decode cX10_next 16 = .ok (.if_icmp .ge 30, 3) := by decide +kernel
theorem dX10_next_19 : decode cX10_next 19 = .ok (.aload_n 0, 1) := by decide +kernel
theorem dX10_next_20 : decode cX10_next 20 = .ok (.getfield 34, 3) := by decide +kernel
theorem dX10_next_23 : decode cX10_next 23 = .ok (.aload_n 0, 1) := by decide +kernel
theorem dX10_next_24 : decode cX10_next 24 = .ok (.getfield 137, 3) := by decide +kernel
theorem dX10_next_27 : decode cX10_next 27 = .ok (.iaload, 1) := by decide +kernel
theorem dX10_next_28 : decode cX10_next 28 = .ok (.bipush 32, 2) := by decide +kernel
theorem dX10_next_30 : decode cX10_next 30 = .ok (.if_icmp .ne 16, 3) := by decide +kernel
theorem dX10_next_33 : decode cX10_next 33 = .ok (.aload_n 0, 1) := by decide +kernel
theorem dX10_next_34 : decode cX10_next 34 = .ok (.dup, 1) := by decide +kernel
theorem dX10_next_35 : decode cX10_next 35 = .ok (.getfield 137, 3) := by decide +kernel
theorem dX10_next_38 : decode cX10_next 38 = .ok (.iconst 1, 1) := by decide +kernel
theorem dX10_next_39 : decode cX10_next 39 = .ok (.iadd, 1) := by decide +kernel
theorem dX10_next_40 : decode cX10_next 40 = .ok (.putfield 137, 3) := by decide +kernel
theorem dX10_next_43 : decode cX10_next 43 = .ok (.goto (-35), 3) := by decide +kernel
theorem dX10_next_46 : decode cX10_next 46 = .ok (.aload_n 0, 1) := by decide +kernel
theorem dX10_next_47 : decode cX10_next 47 = .ok (.aload_n 0, 1) := by decide +kernel
theorem dX10_next_48 : decode cX10_next 48 = .ok (.getfield 137, 3) := by decide +kernel
theorem dX10_next_51 : decode cX10_next 51 = .ok (.putfield 134, 3) := by decide +kernel
theorem dX10_next_54 : decode cX10_next 54 = .ok (.aload_n 0, 1) := by decide +kernel
theorem dX10_next_55 : decode cX10_next 55 = .ok (.getfield 137, 3) := by decide +kernel
theorem dX10_next_58 : decode cX10_next 58 = .ok (.aload_n 0, 1) := by decide +kernel
theorem dX10_next_59 : decode cX10_next 59 = .ok (.getfield 131, 3) := by decide +kernel
theorem dX10_next_62 : decode cX10_next 62 = .ok (.if_icmp .ne 10, 3) := by decide +kernel
theorem dX10_next_65 : decode cX10_next 65 = .ok (.aload_n 0, 1) := by decide +kernel
theorem dX10_next_66 : decode cX10_next 66 = .ok (.bipush 101, 2) := by decide +kernel
theorem dX10_next_68 : decode cX10_next 68 = .ok (.putfield 140, 3) := by decide +kernel
theorem dX10_next_71 : decode cX10_next 71 = .ok (.return_, 1) := by decide +kernel
theorem dX10_next_72 : decode cX10_next 72 = .ok (.aload_n 0, 1) := by decide +kernel
theorem dX10_next_73 : decode cX10_next 73 = .ok (.getfield 34, 3) := by decide +kernel
theorem dX10_next_76 : decode cX10_next 76 = .ok (.aload_n 0, 1) := by decide +kernel
theorem dX10_next_77 : decode cX10_next 77 = .ok (.dup, 1) := by decide +kernel
theorem dX10_next_78 : decode cX10_next 78 = .ok (.getfield 134, 3) := by decide +kernel
theorem dX10_next_81 : decode cX10_next 81 = .ok (.dup_x1, 1) := by decide +kernel
theorem dX10_next_82 : decode cX10_next 82 = .ok (.iconst 1, 1) := by decide +kernel
theorem dX10_next_83 : decode cX10_next 83 = .ok (.iadd, 1) := by decide +kernel
theorem dX10_next_84 : decode cX10_next 84 = .ok (.putfield 134, 3) := by decide +kernel
theorem dX10_next_87 : decode cX10_next 87 = .ok (.iaload, 1) := by decide +kernel
theorem dX10_next_88 : decode cX10_next 88 = .ok (.istore_n 1, 1) := by decide +kernel
theorem dX10_next_89 : decode cX10_next 89 = .ok (.iload_n 1, 1) := by decide +kernel
theorem dX10_next_90 : decode cX10_next 90 = .ok (.invokestatic 143, 3) := by decide +kernel
theorem dX10_next_93 : decode cX10_next 93 = .ok (.ifCond .eq 51, 3) := by decide +kernel
theorem dX10_next_96 : decode cX10_next 96 = .ok (.aload_n 0, 1) := by decide +kernel
theorem dX10_next_97 : decode cX10_next 97 = .ok (.getfield 134, 3) := by decide +kernel
theorem dX10_next_100 : decode cX10_next 100 = .ok (.aload_n 0, 1) := by decide +kernel
theorem dX10_next_101 : decode cX10_next 101 = .ok (.getfield 131, 3) := by decide +kernel
theorem dX10_next_104 : decode cX10_next 104 = .ok (.if_icmp .ge 31, 3) := by decide +kernel
theorem dX10_next_107 : decode cX10_next 107 = .ok (.aload_n 0, 1) := by decide +kernel
theorem dX10_next_108 : decode cX10_next 108 = .ok (.getfield 34, 3) := by decide +kernel
theorem dX10_next_111 : decode cX10_next 111 = .ok (.aload_n 0, 1) := by decide +kernel
theorem dX10_next_112 : decode cX10_next 112 = .ok (.getfield 134, 3) := by decide +kernel
theorem dX10_next_115 : decode cX10_next 115 = .ok (.iaload, 1) := by decide +kernel
theorem dX10_next_116 : decode cX10_next 116 = .ok (.invokestatic 143, 3) := by decide +kernel
theorem dX10_next_119 : decode cX10_next 119 = .ok (.ifCond .eq 16, 3) := by decide +kernel
theorem dX10_next_122 : decode cX10_next 122 = .ok (.aload_n 0, 1) := by decide +kernel
theorem dX10_next_123 : decode cX10_next 123 = .ok (.dup, 1) := by decide +kernel
theorem dX10_next_124 : decode cX10_next 124 = .ok (.getfield 134, 3) := by decide +kernel
theorem dX10_next_127 : decode cX10_next 127 = .ok (.iconst 1, 1) := by decide +kernel
theorem dX10_next_128 : decode cX10_next 128 = .ok (.iadd, 1) := by decide +kernel
theorem dX10_next_129 : decode cX10_next 129 = .ok (.putfield 134, 3) := by decide +kernel
theorem dX10_next_132 : decode cX10_next 132 = .ok (.goto (-36), 3) := by decide +kernel
theorem dX10_next_135 : decode cX10_next 135 = .ok (.aload_n 0, 1) := by decide +kernel
theorem dX10_next_136 : decode cX10_next 136 = .ok (.bipush 119, 2) := by decide +kernel
theorem dX10_next_138 : decode cX10_next 138 = .ok (.putfield 140, 3) := by decide +kernel
theorem dX10_next_141 : decode cX10_next 141 = .ok (.goto 138, 3) := by decide +kernel
theorem dX10_next_144 : decode cX10_next 144 = .ok (.iload_n 1, 1) := by decide +kernel
theorem dX10_next_145 : decode cX10_next 145 = .ok (.invokestatic 146, 3) := by decide +kernel
theorem dX10_next_148 : decode cX10_next 148 = .ok (.ifCond .eq 114, 3) := by decide +kernel
theorem dX10_next_151 : decode cX10_next 151 = .ok (.aload_n 0, 1) := by decide +kernel
theorem dX10_next_152 : decode cX10_next 152 = .ok (.iload_n 1, 1) := by decide +kernel
theorem dX10_next_153 : decode cX10_next 153 = .ok (.bipush 48, 2) := by decide +kernel
theorem dX10_next_155 : decode cX10_next 155 = .ok (.isub, 1) := by decide +kernel
theorem dX10_next_156 : decode cX10_next 156 = .ok (.putfield 149, 3) := by decide +kernel
theorem dX10_next_159 : decode cX10_next 159 = .ok (.aload_n 0, 1) := by decide +kernel
theorem dX10_next_160 : decode cX10_next 160 = .ok (.getfield 134, 3) := by decide +kernel
theorem dX10_next_163 : decode cX10_next 163 = .ok (.aload_n 0, 1) := by decide +kernel
theorem dX10_next_164 : decode cX10_next 164 = .ok (.getfield 131, 3) := by decide +kernel
theorem dX10_next_167 : decode cX10_next 167 = .ok (.if_icmp .ge 68, 3) := by decide +kernel
theorem dX10_next_170 : decode cX10_next 170 = .ok (.aload_n 0, 1) := by decide +kernel
theorem dX10_next_171 : decode cX10_next 171 = .ok (.getfield 34, 3) := by decide +kernel
theorem dX10_next_174 : decode cX10_next 174 = .ok (.aload_n 0, 1) := by decide +kernel
theorem dX10_next_175 : decode cX10_next 175 = .ok (.getfield 134, 3) := by decide +kernel
theorem dX10_next_178 : decode cX10_next 178 = .ok (.iaload, 1) := by decide +kernel
theorem dX10_next_179 : decode cX10_next 179 = .ok (.invokestatic 146, 3) := by decide +kernel
theorem dX10_next_182 : decode cX10_next 182 = .ok (.ifCond .eq 53, 3) := by decide +kernel
theorem dX10_next_185 : decode cX10_next 185 = .ok (.aload_n 0, 1) := by decide +kernel
theorem dX10_next_186 : decode cX10_next 186 = .ok (.getfield 134, 3) := by decide +kernel
theorem dX10_next_189 : decode cX10_next 189 = .ok (.aload_n 0, 1) := by decide +kernel
theorem dX10_next_190 : decode cX10_next 190 = .ok (.getfield 137, 3) := by decide +kernel
theorem dX10_next_193 : decode cX10_next 193 = .ok (.isub, 1) := by decide +kernel
theorem dX10_next_194 : decode cX10_next 194 = .ok (.iconst 2, 1) := by decide +kernel
theorem dX10_next_195 : decode cX10_next 195 = .ok (.if_icmp .ge 27, 3) := by decide +kernel
theorem dX10_next_198 : decode cX10_next 198 = .ok (.aload_n 0, 1) := by decide +kernel
theorem dX10_next_199 : decode cX10_next 199 = .ok (.bipush 10, 2) := by decide +kernel
theorem dX10_next_201 : decode cX10_next 201 = .ok (.aload_n 0, 1) := by decide +kernel
theorem dX10_next_202 : decode cX10_next 202 = .ok (.getfield 149, 3) := by decide +kernel
theorem dX10_next_205 : decode cX10_next 205 = .ok (.imul, 1) := by decide +kernel
theorem dX10_next_206 : decode cX10_next 206 = .ok (.aload_n 0, 1) := by decide +kernel
theorem dX10_next_207 : decode cX10_next 207 = .ok (.getfield 34, 3) := by decide +kernel
theorem dX10_next_210 : decode cX10_next 210 = .ok (.aload_n 0, 1) := by decide +kernel
theorem dX10_next_211 : decode cX10_next 211 = .ok (.getfield 134, 3) := by decide +kernel
theorem dX10_next_214 : decode cX10_next 214 = .ok (.iaload, 1) := by decide +kernel
theorem dX10_next_215 : decode cX10_next 215 = .ok (.iadd, 1) := by decide +kernel
theorem dX10_next_216 : decode cX10_next 216 = .ok (.bipush 48, 2) := by decide +kernel
theorem dX10_next_218 : decode cX10_next 218 = .ok (.isub, 1) := by decide +kernel
theorem dX10_next_219 : decode cX10_next 219 = .ok (.putfield 149, 3) := by decide +kernel
theorem dX10_next_222 : decode cX10_next 222 = .ok (.aload_n 0, 1) := by decide +kernel
theorem dX10_next_223 : decode cX10_next 223 = .ok (.dup, 1) := by decide +kernel
theorem dX10_next_224 : decode cX10_next 224 = .ok (.getfield 134, 3) := by decide +kernel
theorem dX10_next_227 : decode cX10_next 227 = .ok (.iconst 1, 1) := by decide +kernel
theorem dX10_next_228 : decode cX10_next 228 = .ok (.iadd, 1) := by decide +kernel
theorem dX10_next_229 : decode cX10_next 229 = .ok (.putfield 134, 3) := by decide +kernel
theorem dX10_next_232 : decode cX10_next 232 = .ok (.goto (-73), 3) := by decide +kernel
theorem dX10_next_235 : decode cX10_next 235 = .ok (.aload_n 0, 1) := by decide +kernel
theorem dX10_next_236 : decode cX10_next 236 = .ok (.aload_n 0, 1) := by decide +kernel
theorem dX10_next_237 : decode cX10_next 237 = .ok (.getfield 134, 3) := by decide +kernel
theorem dX10_next_240 : decode cX10_next 240 = .ok (.aload_n 0, 1) := by decide +kernel
theorem dX10_next_241 : decode cX10_next 241 = .ok (.getfield 137, 3) := by decide +kernel
theorem dX10_next_244 : decode cX10_next 244 = .ok (.isub, 1) := by decide +kernel
theorem dX10_next_245 : decode cX10_next 245 = .ok (.iconst 2, 1) := by decide +kernel
theorem dX10_next_246 : decode cX10_next 246 = .ok (.if_icmp .le 8, 3) := by decide +kernel
theorem dX10_next_249 : decode cX10_next 249 = .ok (.bipush 120, 2) := by decide +kernel
theorem dX10_next_251 : decode cX10_next 251 = .ok (.goto 5, 3) := by decide +kernel
theorem dX10_next_254 : decode cX10_next 254 = .ok (.bipush 48, 2) := by decide +kernel
theorem dX10_next_256 : decode cX10_next 256 = .ok (.putfield 140, 3) := by decide +kernel
theorem dX10_next_259 : decode cX10_next 259 = .ok (.goto 20, 3) := by decide +kernel
theorem dX10_next_262 : decode cX10_next 262 = .ok (.aload_n 0, 1) := by decide +kernel
theorem dX10_next_263 : decode cX10_next 263 = .ok (.iload_n 1, 1) := by decide +kernel
theorem dX10_next_264 : decode cX10_next 264 = .ok (.bipush 59, 2) := by decide +kernel
theorem dX10_next_266 : decode cX10_next 266 = .ok (.if_icmp .ne 8, 3) := by decide +kernel
theorem dX10_next_269 : decode cX10_next 269 = .ok (.bipush 59, 2) := by decide +kernel
theorem dX10_next_271 : decode cX10_next 271 = .ok (.goto 5, 3) := by decide +kernel
theorem dX10_next_274 : decode cX10_next 274 = .ok (.bipush 120, 2) := by decide +kernel
theorem dX10_next_276 : decode cX10_next 276 = .ok (.putfield 140, 3) := by decide +kernel
theorem dX10_next_279 : decode cX10_next 279 = .ok (.return_, 1) := by decide +kernel
theorem dX10_isWord_0 : decode cX10_isWord 0 = .ok (.aload_n 0, 1) := by decide +kernel
theorem dX10_isWord_1 : decode cX10_isWord 1 = .ok (.getfield 140, 3) := by decide +kernel
theorem dX10_isWord_4 : decode cX10_isWord 4 = .ok (.bipush 119, 2) := by decide +kernel
theorem dX10_isWord_6 : decode cX10_isWord 6 = .ok (.if_icmp .ne 19, 3) := by decide +kernel
theorem dX10_isWord_9 : decode cX10_isWord 9 = .ok (.aload_n 0, 1) := by decide +kernel
theorem dX10_isWord_10 : decode cX10_isWord 10 = .ok (.getfield 134, 3) := by decide +kernel
theorem dX10_isWord_13 : decode cX10_isWord 13 = .ok (.aload_n 0, 1) := by decide +kernel
theorem dX10_isWord_14 : decode cX10_isWord 14 = .ok (.getfield 137, 3) := by decide +kernel
theorem dX10_isWord_17 : decode cX10_isWord 17 = .ok (.isub, 1) := by decide +kernel
theorem dX10_isWord_18 : decode cX10_isWord 18 = .ok (.aload_n 1, 1) := by decide +kernel
theorem dX10_isWord_19 : decode cX10_isWord 19 = .ok (.invokevirtual 152, 3) := by decide +kernel
theorem dX10_isWord_22 : decode cX10_isWord 22 = .ok (.if_icmp .eq 5, 3) := by decide +kernel
theorem dX10_isWord_25 : decode cX10_isWord 25 = .ok (.iconst 0, 1) := by decide +kernel
theorem dX10_isWord_26 : decode cX10_isWord 26 = .ok (.ireturn, 1) := by decide +kernel
theorem dX10_isWord_27 : decode cX10_isWord 27 = .ok (.iconst 0, 1) := by decide +kernel
theorem dX10_isWord_28 : decode cX10_isWord 28 = .ok (.istore_n 2, 1) := by decide +kernel
theorem dX10_isWord_29 : decode cX10_isWord 29 = .ok (.iload_n 2, 1) := by decide +kernel
theorem dX10_isWord_30 : decode cX10_isWord 30 = .ok (.aload_n 1, 1) := by decide +kernel
theorem dX10_isWord_31 : decode cX10_isWord 31 = .ok (.invokevirtual 152, 3) := by decide +kernel
theorem dX10_isWord_34 : decode cX10_isWord 34 = .ok (.if_icmp .ge 30, 3) := by decide +kernel
theorem dX10_isWord_37 : decode cX10_isWord 37 = .ok (.aload_n 0, 1) := by decide +kernel
theorem dX10_isWord_38 : decode cX10_isWord 38 = .ok (.getfield 34, 3) := by decide +kernel
theorem dX10_isWord_41 : decode cX10_isWord 41 = .ok (.aload_n 0, 1) := by decide +kernel
theorem dX10_isWord_42 : decode cX10_isWord 42 = .ok (.getfield 137, 3) := by decide +kernel
theorem dX10_isWord_45 : decode cX10_isWord 45 = .ok (.iload_n 2, 1) := by decide +kernel
theorem dX10_isWord_46 : decode cX10_isWord 46 = .ok (.iadd, 1) := by decide +kernel
theorem dX10_isWord_47 : decode cX10_isWord 47 = .ok (.iaload, 1) := by decide +kernel
theorem dX10_isWord_48 : decode cX10_isWord 48 = .ok (.aload_n 1, 1) := by decide +kernel
theorem dX10_isWord_49 : decode cX10_isWord 49 = .ok (.iload_n 2, 1) := by decide +kernel
theorem dX10_isWord_50 : decode cX10_isWord 50 = .ok (.invokevirtual 158, 3) := by decide +kernel
theorem dX10_isWord_53 : decode cX10_isWord 53 = .ok (.if_icmp .eq 5, 3) := by decide +kernel
theorem dX10_isWord_56 : decode cX10_isWord 56 = .ok (.iconst 0, 1) := by decide +kernel
theorem dX10_isWord_57 : decode cX10_isWord 57 = .ok (.ireturn, 1) := by decide +kernel
theorem dX10_isWord_58 : decode cX10_isWord 58 = .ok (.iinc 2 1, 3) := by decide +kernel
theorem dX10_isWord_61 : decode cX10_isWord 61 = .ok (.goto (-32), 3) := by decide +kernel
theorem dX10_isWord_64 : decode cX10_isWord 64 = .ok (.iconst 1, 1) := by decide +kernel
theorem dX10_isWord_65 : decode cX10_isWord 65 = .ok (.ireturn, 1) := by decide +kernel
theorem dX10_number_0 : decode cX10_number 0 = .ok (.aload_n 0, 1) := by decide +kernel
theorem dX10_number_1 : decode cX10_number 1 = .ok (.invokevirtual 162, 3) := by decide +kernel
theorem dX10_number_4 : decode cX10_number 4 = .ok (.aload_n 0, 1) := by decide +kernel
theorem dX10_number_5 : decode cX10_number 5 = .ok (.getfield 140, 3) := by decide +kernel
theorem dX10_number_8 : decode cX10_number 8 = .ok (.bipush 48, 2) := by decide +kernel
theorem dX10_number_10 : decode cX10_number 10 = .ok (.if_icmp .ne 22, 3) := by decide +kernel
theorem dX10_number_13 : decode cX10_number 13 = .ok (.aload_n 0, 1) := by decide +kernel
theorem dX10_number_14 : decode cX10_number 14 = .ok (.getfield 149, 3) := by decide +kernel
theorem dX10_number_17 : decode cX10_number 17 = .ok (.iload_n 1, 1) := by decide +kernel
theorem dX10_number_18 : decode cX10_number 18 = .ok (.iload_n 2, 1) := by decide +kernel
theorem dX10_number_19 : decode cX10_number 19 = .ok (.invokestatic 85, 3) := by decide +kernel
theorem dX10_number_22 : decode cX10_number 22 = .ok (.ifCond .eq 10, 3) := by decide +kernel
theorem dX10_number_25 : decode cX10_number 25 = .ok (.aload_n 0, 1) := by decide +kernel
theorem dX10_number_26 : decode cX10_number 26 = .ok (.getfield 149, 3) := by decide +kernel
theorem dX10_number_29 : decode cX10_number 29 = .ok (.goto 4, 3) := by decide +kernel
theorem dX10_number_32 : decode cX10_number 32 = .ok (.iconst (-1), 1) := by decide +kernel
theorem dX10_number_33 : decode cX10_number 33 = .ok (.ireturn, 1) := by decide +kernel
theorem dX10_statement_0 : decode cX10_statement 0 = .ok (.aload_n 0, 1) := by decide +kernel
theorem dX10_statement_1 : decode cX10_statement 1 = .ok (.ldc 165, 2) := by decide +kernel
theorem dX10_statement_3 : decode cX10_statement 3 = .ok (.invokevirtual 167, 3) := by decide +kernel
theorem dX10_statement_6 : decode cX10_statement 6 = .ok (.ifCond .eq 44, 3) := by decide +kernel
theorem dX10_statement_9 : decode cX10_statement 9 = .ok (.aload_n 0, 1) := by decide +kernel
theorem dX10_statement_10 : decode cX10_statement 10 = .ok (.iconst 0, 1) := by decide +kernel
theorem dX10_statement_11 : decode cX10_statement 11 = .ok (.bipush 11, 2) := by decide +kernel
theorem dX10_statement_13 : decode cX10_statement 13 = .ok (.invokevirtual 171, 3) := by decide +kernel
theorem dX10_statement_16 : decode cX10_statement 16 = .ok (.istore_n 1, 1) := by decide +kernel
theorem dX10_statement_17 : decode cX10_statement 17 = .ok (.iload_n 1, 1) := by decide +kernel
theorem dX10_statement_18 : decode cX10_statement 18 = .ok (.iconst (-1), 1) := by decide +kernel
theorem dX10_statement_19 : decode cX10_statement 19 = .ok (.if_icmp .ne 7, 3) := by decide +kernel
theorem dX10_statement_22 : decode cX10_statement 22 = .ok (.iconst (-1), 1) := by decide +kernel
theorem dX10_statement_23 : decode cX10_statement 23 = .ok (.goto 10, 3) := by decide +kernel
theorem dX10_statement_26 : decode cX10_statement 26 = .ok (.aload_n 0, 1) := by decide +kernel
theorem dX10_statement_27 : decode cX10_statement 27 = .ok (.iconst 0, 1) := by decide +kernel
theorem dX10_statement_28 : decode cX10_statement 28 = .ok (.bipush 7, 2) := by decide +kernel
theorem dX10_statement_30 : decode cX10_statement 30 = .ok (.invokevirtual 171, 3) := by decide +kernel
theorem dX10_statement_33 : decode cX10_statement 33 = .ok (.istore_n 2, 1) := by decide +kernel
theorem dX10_statement_34 : decode cX10_statement 34 = .ok (.iload_n 2, 1) := by decide +kernel
theorem dX10_statement_35 : decode cX10_statement 35 = .ok (.iconst (-1), 1) := by decide +kernel
theorem dX10_statement_36 : decode cX10_statement 36 = .ok (.if_icmp .ne 5, 3) := by decide +kernel
theorem dX10_statement_39 : decode cX10_statement 39 = .ok (.iconst 0, 1) := by decide +kernel
theorem dX10_statement_40 : decode cX10_statement 40 = .ok (.ireturn, 1) := by decide +kernel
theorem dX10_statement_41 : decode cX10_statement 41 = .ok (.aload_n 0, 1) := by decide +kernel
theorem dX10_statement_42 : decode cX10_statement 42 = .ok (.getfield 9, 3) := by decide +kernel
theorem dX10_statement_45 : decode cX10_statement 45 = .ok (.iload_n 1, 1) := by decide +kernel
theorem dX10_statement_46 : decode cX10_statement 46 = .ok (.iload_n 2, 1) := by decide +kernel
theorem dX10_statement_47 : decode cX10_statement 47 = .ok (.iastore, 1) := by decide +kernel
theorem dX10_statement_48 : decode cX10_statement 48 = .ok (.iconst 1, 1) := by decide +kernel
theorem dX10_statement_49 : decode cX10_statement 49 = .ok (.ireturn, 1) := by decide +kernel
theorem dX10_statement_50 : decode cX10_statement 50 = .ok (.aload_n 0, 1) := by decide +kernel
theorem dX10_statement_51 : decode cX10_statement 51 = .ok (.ldc 175, 2) := by decide +kernel
theorem dX10_statement_53 : decode cX10_statement 53 = .ok (.invokevirtual 167, 3) := by decide +kernel
theorem dX10_statement_56 : decode cX10_statement 56 = .ok (.ifCond .eq 27, 3) := by decide +kernel
theorem dX10_statement_59 : decode cX10_statement 59 = .ok (.aload_n 0, 1) := by decide +kernel
theorem dX10_statement_60 : decode cX10_statement 60 = .ok (.iconst 0, 1) := by decide +kernel
theorem dX10_statement_61 : decode cX10_statement 61 = .ok (.bipush 11, 2) := by decide +kernel
theorem dX10_statement_63 : decode cX10_statement 63 = .ok (.invokevirtual 171, 3) := by decide +kernel
theorem dX10_statement_66 : decode cX10_statement 66 = .ok (.istore_n 1, 1) := by decide +kernel
theorem dX10_statement_67 : decode cX10_statement 67 = .ok (.iload_n 1, 1) := by decide +kernel
theorem dX10_statement_68 : decode cX10_statement 68 = .ok (.iconst (-1), 1) := by decide +kernel
theorem dX10_statement_69 : decode cX10_statement 69 = .ok (.if_icmp .ne 5, 3) := by decide +kernel
theorem dX10_statement_72 : decode cX10_statement 72 = .ok (.iconst 0, 1) := by decide +kernel
theorem dX10_statement_73 : decode cX10_statement 73 = .ok (.ireturn, 1) := by decide +kernel
theorem dX10_statement_74 : decode cX10_statement 74 = .ok (.aload_n 0, 1) := by decide +kernel
theorem dX10_statement_75 : decode cX10_statement 75 = .ok (.getfield 9, 3) := by decide +kernel
theorem dX10_statement_78 : decode cX10_statement 78 = .ok (.iload_n 1, 1) := by decide +kernel
theorem dX10_statement_79 : decode cX10_statement 79 = .ok (.iconst (-1), 1) := by decide +kernel
theorem dX10_statement_80 : decode cX10_statement 80 = .ok (.iastore, 1) := by decide +kernel
theorem dX10_statement_81 : decode cX10_statement 81 = .ok (.iconst 1, 1) := by decide +kernel
theorem dX10_statement_82 : decode cX10_statement 82 = .ok (.ireturn, 1) := by decide +kernel
theorem dX10_statement_83 : decode cX10_statement 83 = .ok (.aload_n 0, 1) := by decide +kernel
theorem dX10_statement_84 : decode cX10_statement 84 = .ok (.ldc 177, 2) := by decide +kernel
theorem dX10_statement_86 : decode cX10_statement 86 = .ok (.invokevirtual 167, 3) := by decide +kernel
theorem dX10_statement_89 : decode cX10_statement 89 = .ok (.ifCond .eq 72, 3) := by decide +kernel
theorem dX10_statement_92 : decode cX10_statement 92 = .ok (.aload_n 0, 1) := by decide +kernel
theorem dX10_statement_93 : decode cX10_statement 93 = .ok (.getfield 89, 3) := by decide +kernel
theorem dX10_statement_96 : decode cX10_statement 96 = .ok (.bipush 8, 2) := by decide +kernel
theorem dX10_statement_98 : decode cX10_statement 98 = .ok (.if_icmp .ne 5, 3) := by decide +kernel
theorem dX10_statement_101 : decode cX10_statement 101 = .ok (.iconst 0, 1) := by decide +kernel
theorem dX10_statement_102 : decode cX10_statement 102 = .ok (.ireturn, 1) := by decide +kernel
theorem dX10_statement_103 : decode cX10_statement 103 = .ok (.aload_n 0, 1) := by decide +kernel
theorem dX10_statement_104 : decode cX10_statement 104 = .ok (.iconst 0, 1) := by decide +kernel
theorem dX10_statement_105 : decode cX10_statement 105 = .ok (.iconst 5, 1) := by decide +kernel
theorem dX10_statement_106 : decode cX10_statement 106 = .ok (.invokevirtual 171, 3) := by decide +kernel
theorem dX10_statement_109 : decode cX10_statement 109 = .ok (.istore_n 1, 1) := by decide +kernel
theorem dX10_statement_110 : decode cX10_statement 110 = .ok (.iload_n 1, 1) := by decide +kernel
theorem dX10_statement_111 : decode cX10_statement 111 = .ok (.iconst (-1), 1) := by decide +kernel
theorem dX10_statement_112 : decode cX10_statement 112 = .ok (.if_icmp .ne 7, 3) := by decide +kernel
theorem dX10_statement_115 : decode cX10_statement 115 = .ok (.iconst (-1), 1) := by decide +kernel
theorem dX10_statement_116 : decode cX10_statement 116 = .ok (.goto 10, 3) := by decide +kernel
theorem dX10_statement_119 : decode cX10_statement 119 = .ok (.aload_n 0, 1) := by decide +kernel
theorem dX10_statement_120 : decode cX10_statement 120 = .ok (.iconst 0, 1) := by decide +kernel
theorem dX10_statement_121 : decode cX10_statement 121 = .ok (.bipush 7, 2) := by decide +kernel
theorem dX10_statement_123 : decode cX10_statement 123 = .ok (.invokevirtual 171, 3) := by decide +kernel
theorem dX10_statement_126 : decode cX10_statement 126 = .ok (.istore_n 2, 1) := by decide +kernel
theorem dX10_statement_127 : decode cX10_statement 127 = .ok (.iload_n 2, 1) := by decide +kernel
theorem dX10_statement_128 : decode cX10_statement 128 = .ok (.iconst (-1), 1) := by decide +kernel
theorem dX10_statement_129 : decode cX10_statement 129 = .ok (.if_icmp .ne 7, 3) := by decide +kernel
theorem dX10_statement_132 : decode cX10_statement 132 = .ok (.iconst (-1), 1) := by decide +kernel
theorem dX10_statement_133 : decode cX10_statement 133 = .ok (.goto 10, 3) := by decide +kernel
theorem dX10_statement_136 : decode cX10_statement 136 = .ok (.aload_n 0, 1) := by decide +kernel
theorem dX10_statement_137 : decode cX10_statement 137 = .ok (.iconst 0, 1) := by decide +kernel
theorem dX10_statement_138 : decode cX10_statement 138 = .ok (.bipush 99, 2) := by decide +kernel
theorem dX10_statement_140 : decode cX10_statement 140 = .ok (.invokevirtual 171, 3) := by decide +kernel
theorem dX10_statement_143 : decode cX10_statement 143 = .ok (.istore_n 3, 1) := by decide +kernel
theorem dX10_statement_144 : decode cX10_statement 144 = .ok (.iload_n 3, 1) := by decide +kernel
theorem dX10_statement_145 : decode cX10_statement 145 = .ok (.iconst (-1), 1) := by decide +kernel
theorem dX10_statement_146 : decode cX10_statement 146 = .ok (.if_icmp .ne 5, 3) := by decide +kernel
theorem dX10_statement_149 : decode cX10_statement 149 = .ok (.iconst 0, 1) := by decide +kernel
theorem dX10_statement_150 : decode cX10_statement 150 = .ok (.ireturn, 1) := by decide +kernel
theorem dX10_statement_151 : decode cX10_statement 151 = .ok (.aload_n 0, 1) := by decide +kernel
theorem dX10_statement_152 : decode cX10_statement 152 = .ok (.iload_n 1, 1) := by decide +kernel
theorem dX10_statement_153 : decode cX10_statement 153 = .ok (.iload_n 2, 1) := by decide +kernel
theorem dX10_statement_154 : decode cX10_statement 154 = .ok (.iload_n 3, 1) := by decide +kernel
theorem dX10_statement_155 : decode cX10_statement 155 = .ok (.invokevirtual 127, 3) := by decide +kernel
theorem dX10_statement_158 : decode cX10_statement 158 = .ok (.pop, 1) := by decide +kernel
theorem dX10_statement_159 : decode cX10_statement 159 = .ok (.iconst 1, 1) := by decide +kernel
theorem dX10_statement_160 : decode cX10_statement 160 = .ok (.ireturn, 1) := by decide +kernel
theorem dX10_statement_161 : decode cX10_statement 161 = .ok (.aload_n 0, 1) := by decide +kernel
theorem dX10_statement_162 : decode cX10_statement 162 = .ok (.ldc 179, 2) := by decide +kernel
theorem dX10_statement_164 : decode cX10_statement 164 = .ok (.invokevirtual 167, 3) := by decide +kernel
theorem dX10_statement_167 : decode cX10_statement 167 = .ok (.ifCond .eq 7, 3) := by decide +kernel
theorem dX10_statement_170 : decode cX10_statement 170 = .ok (.iconst 0, 1) := by decide +kernel
theorem dX10_statement_171 : decode cX10_statement 171 = .ok (.goto 30, 3) := by decide +kernel
theorem dX10_statement_174 : decode cX10_statement 174 = .ok (.aload_n 0, 1) := by decide +kernel
theorem dX10_statement_175 : decode cX10_statement 175 = .ok (.ldc 181, 2) := by decide +kernel
theorem dX10_statement_177 : decode cX10_statement 177 = .ok (.invokevirtual 167, 3) := by decide +kernel
theorem dX10_statement_180 : decode cX10_statement 180 = .ok (.ifCond .eq 7, 3) := by decide +kernel
theorem dX10_statement_183 : decode cX10_statement 183 = .ok (.iconst 1, 1) := by decide +kernel
theorem dX10_statement_184 : decode cX10_statement 184 = .ok (.goto 17, 3) := by decide +kernel
theorem dX10_statement_187 : decode cX10_statement 187 = .ok (.aload_n 0, 1) := by decide +kernel
theorem dX10_statement_188 : decode cX10_statement 188 = .ok (.ldc 182, 2) := by decide +kernel
theorem dX10_statement_190 : decode cX10_statement 190 = .ok (.invokevirtual 167, 3) := by decide +kernel
theorem dX10_statement_193 : decode cX10_statement 193 = .ok (.ifCond .eq 7, 3) := by decide +kernel
theorem dX10_statement_196 : decode cX10_statement 196 = .ok (.iconst 2, 1) := by decide +kernel
theorem dX10_statement_197 : decode cX10_statement 197 = .ok (.goto 4, 3) := by decide +kernel
theorem dX10_statement_200 : decode cX10_statement 200 = .ok (.iconst (-1), 1) := by decide +kernel
theorem dX10_statement_201 : decode cX10_statement 201 = .ok (.istore_n 3, 1) := by decide +kernel
theorem dX10_statement_202 : decode cX10_statement 202 = .ok (.iload_n 3, 1) := by decide +kernel
theorem dX10_statement_203 : decode cX10_statement 203 = .ok (.iconst (-1), 1) := by decide +kernel
theorem dX10_statement_204 : decode cX10_statement 204 = .ok (.if_icmp .ne 5, 3) := by decide +kernel
theorem dX10_statement_207 : decode cX10_statement 207 = .ok (.iconst 0, 1) := by decide +kernel
theorem dX10_statement_208 : decode cX10_statement 208 = .ok (.ireturn, 1) := by decide +kernel
theorem dX10_statement_209 : decode cX10_statement 209 = .ok (.aload_n 0, 1) := by decide +kernel
theorem dX10_statement_210 : decode cX10_statement 210 = .ok (.iconst 0, 1) := by decide +kernel
theorem dX10_statement_211 : decode cX10_statement 211 = .ok (.aload_n 0, 1) := by decide +kernel
theorem dX10_statement_212 : decode cX10_statement 212 = .ok (.getfield 89, 3) := by decide +kernel
theorem dX10_statement_215 : decode cX10_statement 215 = .ok (.iconst 1, 1) := by decide +kernel
theorem dX10_statement_216 : decode cX10_statement 216 = .ok (.isub, 1) := by decide +kernel
theorem dX10_statement_217 : decode cX10_statement 217 = .ok (.invokevirtual 171, 3) := by decide +kernel
theorem dX10_statement_220 : decode cX10_statement 220 = .ok (.istore_n 1, 1) := by decide +kernel
theorem dX10_statement_221 : decode cX10_statement 221 = .ok (.iload_n 1, 1) := by decide +kernel
theorem dX10_statement_222 : decode cX10_statement 222 = .ok (.iconst (-1), 1) := by decide +kernel
theorem dX10_statement_223 : decode cX10_statement 223 = .ok (.if_icmp .ne 7, 3) := by decide +kernel
theorem dX10_statement_226 : decode cX10_statement 226 = .ok (.iconst (-1), 1) := by decide +kernel
theorem dX10_statement_227 : decode cX10_statement 227 = .ok (.goto 20, 3) := by decide +kernel
theorem dX10_statement_230 : decode cX10_statement 230 = .ok (.aload_n 0, 1) := by decide +kernel
theorem dX10_statement_231 : decode cX10_statement 231 = .ok (.iconst 0, 1) := by decide +kernel
theorem dX10_statement_232 : decode cX10_statement 232 = .ok (.iload_n 3, 1) := by decide +kernel
theorem dX10_statement_233 : decode cX10_statement 233 = .ok (.iconst 1, 1) := by decide +kernel
theorem dX10_statement_234 : decode cX10_statement 234 = .ok (.if_icmp .ne 8, 3) := by decide +kernel
theorem dX10_statement_237 : decode cX10_statement 237 = .ok (.bipush 12, 2) := by decide +kernel
theorem dX10_statement_239 : decode cX10_statement 239 = .ok (.goto 5, 3) := by decide +kernel
theorem dX10_statement_242 : decode cX10_statement 242 = .ok (.bipush 7, 2) := by decide +kernel
theorem dX10_statement_244 : decode cX10_statement 244 = .ok (.invokevirtual 171, 3) := by decide +kernel
theorem dX10_statement_247 : decode cX10_statement 247 = .ok (.istore_n 2, 1) := by decide +kernel
theorem dX10_statement_248 : decode cX10_statement 248 = .ok (.iload_n 2, 1) := by decide +kernel
theorem dX10_statement_249 : decode cX10_statement 249 = .ok (.iconst (-1), 1) := by decide +kernel
theorem dX10_statement_250 : decode cX10_statement 250 = .ok (.if_icmp .ne 5, 3) := by decide +kernel
theorem dX10_statement_253 : decode cX10_statement 253 = .ok (.iconst 0, 1) := by decide +kernel
theorem dX10_statement_254 : decode cX10_statement 254 = .ok (.ireturn, 1) := by decide +kernel
theorem dX10_statement_255 : decode cX10_statement 255 = .ok (.iload_n 3, 1) := by decide +kernel
theorem dX10_statement_256 : decode cX10_statement 256 = .ok (.ifCond .ne 18, 3) := by decide +kernel
theorem dX10_statement_259 : decode cX10_statement 259 = .ok (.aload_n 0, 1) := by decide +kernel
theorem dX10_statement_260 : decode cX10_statement 260 = .ok (.getfield 22, 3) := by decide +kernel
theorem dX10_statement_263 : decode cX10_statement 263 = .ok (.iload_n 1, 1) := by decide +kernel
theorem dX10_statement_264 : decode cX10_statement 264 = .ok (.dup2, 1) := by decide +kernel
theorem dX10_statement_265 : decode cX10_statement 265 = .ok (.iaload, 1) := by decide +kernel
theorem dX10_statement_266 : decode cX10_statement 266 = .ok (.iconst 1, 1) := by decide +kernel
theorem dX10_statement_267 : decode cX10_statement 267 = .ok (.iload_n 2, 1) := by decide +kernel
theorem dX10_statement_268 : decode cX10_statement 268 = .ok (.ishl, 1) := by decide +kernel
theorem dX10_statement_269 : decode cX10_statement 269 = .ok (.ior, 1) := by decide +kernel
theorem dX10_statement_270 : decode cX10_statement 270 = .ok (.iastore, 1) := by decide +kernel
theorem dX10_statement_271 : decode cX10_statement 271 = .ok (.goto 25, 3) := by decide +kernel
theorem dX10_statement_274 : decode cX10_statement 274 = .ok (.iload_n 3, 1) := by decide +kernel
theorem dX10_statement_275 : decode cX10_statement 275 = .ok (.iconst 1, 1) := by decide +kernel
theorem dX10_statement_276 : decode cX10_statement 276 = .ok (.if_icmp .ne 13, 3) := by decide +kernel
theorem dX10_statement_279 : decode cX10_statement 279 = .ok (.aload_n 0, 1) := by decide +kernel
theorem dX10_statement_280 : decode cX10_statement 280 = .ok (.getfield 25, 3) := by decide +kernel
theorem dX10_statement_283 : decode cX10_statement 283 = .ok (.iload_n 1, 1) := by decide +kernel
theorem dX10_statement_284 : decode cX10_statement 284 = .ok (.iload_n 2, 1) := by decide +kernel
theorem dX10_statement_285 : decode cX10_statement 285 = .ok (.iastore, 1) := by decide +kernel
theorem dX10_statement_286 : decode cX10_statement 286 = .ok (.goto 10, 3) := by decide +kernel
theorem dX10_statement_289 : decode cX10_statement 289 = .ok (.aload_n 0, 1) := by decide +kernel
theorem dX10_statement_290 : decode cX10_statement 290 = .ok (.getfield 28, 3) := by decide +kernel
theorem dX10_statement_293 : decode cX10_statement 293 = .ok (.iload_n 1, 1) := by decide +kernel
theorem dX10_statement_294 : decode cX10_statement 294 = .ok (.iload_n 2, 1) := by decide +kernel
theorem dX10_statement_295 : decode cX10_statement 295 = .ok (.iastore, 1) := by decide +kernel
theorem dX10_statement_296 : decode cX10_statement 296 = .ok (.iconst 1, 1) := by decide +kernel
theorem dX10_statement_297 : decode cX10_statement 297 = .ok (.ireturn, 1) := by decide +kernel
theorem dX10_window_0 : decode cX10_window 0 = .ok (.aload_n 0, 1) := by decide +kernel
theorem dX10_window_1 : decode cX10_window 1 = .ok (.aload_n 0, 1) := by decide +kernel
theorem dX10_window_2 : decode cX10_window 2 = .ok (.getfield 53, 3) := by decide +kernel
theorem dX10_window_5 : decode cX10_window 5 = .ok (.invokevirtual 183, 3) := by decide +kernel
theorem dX10_window_8 : decode cX10_window 8 = .ok (.aload_n 0, 1) := by decide +kernel
theorem dX10_window_9 : decode cX10_window 9 = .ok (.iconst 0, 1) := by decide +kernel
theorem dX10_window_10 : decode cX10_window 10 = .ok (.putfield 134, 3) := by decide +kernel
theorem dX10_window_13 : decode cX10_window 13 = .ok (.iconst 0, 1) := by decide +kernel
theorem dX10_window_14 : decode cX10_window 14 = .ok (.istore_n 1, 1) := by decide +kernel
theorem dX10_window_15 : decode cX10_window 15 = .ok (.iconst 1, 1) := by decide +kernel
theorem dX10_window_16 : decode cX10_window 16 = .ok (.istore_n 2, 1) := by decide +kernel
theorem dX10_window_17 : decode cX10_window 17 = .ok (.iload_n 2, 1) := by decide +kernel
theorem dX10_window_18 : decode cX10_window 18 = .ok (.ifCond .eq 60, 3) := by decide +kernel
theorem dX10_window_21 : decode cX10_window 21 = .ok (.aload_n 0, 1) := by decide +kernel
theorem dX10_window_22 : decode cX10_window 22 = .ok (.invokevirtual 162, 3) := by decide +kernel
theorem dX10_window_25 : decode cX10_window 25 = .ok (.aload_n 0, 1) := by decide +kernel
theorem dX10_window_26 : decode cX10_window 26 = .ok (.invokevirtual 187, 3) := by decide +kernel
theorem dX10_window_29 : decode cX10_window 29 = .ok (.istore_n 2, 1) := by decide +kernel
theorem dX10_window_30 : decode cX10_window 30 = .ok (.iload_n 2, 1) := by decide +kernel
theorem dX10_window_31 : decode cX10_window 31 = .ok (.ifCond .ne 6, 3) := by decide +kernel
theorem dX10_window_34 : decode cX10_window 34 = .ok (.goto (-17), 3) := by decide +kernel
theorem dX10_window_37 : decode cX10_window 37 = .ok (.iinc 1 1, 3) := by decide +kernel
theorem dX10_window_40 : decode cX10_window 40 = .ok (.aload_n 0, 1) := by decide +kernel
theorem dX10_window_41 : decode cX10_window 41 = .ok (.invokevirtual 162, 3) := by decide +kernel
theorem dX10_window_44 : decode cX10_window 44 = .ok (.aload_n 0, 1) := by decide +kernel
theorem dX10_window_45 : decode cX10_window 45 = .ok (.getfield 140, 3) := by decide +kernel
theorem dX10_window_48 : decode cX10_window 48 = .ok (.bipush 101, 2) := by decide +kernel
theorem dX10_window_50 : decode cX10_window 50 = .ok (.if_icmp .ne 10, 3) := by decide +kernel
theorem dX10_window_53 : decode cX10_window 53 = .ok (.aload_n 0, 1) := by decide +kernel
theorem dX10_window_54 : decode cX10_window 54 = .ok (.iconst 0, 1) := by decide +kernel
theorem dX10_window_55 : decode cX10_window 55 = .ok (.putfield 131, 3) := by decide +kernel
theorem dX10_window_58 : decode cX10_window 58 = .ok (.iload_n 1, 1) := by decide +kernel
theorem dX10_window_59 : decode cX10_window 59 = .ok (.ireturn, 1) := by decide +kernel
theorem dX10_window_60 : decode cX10_window 60 = .ok (.aload_n 0, 1) := by decide +kernel
theorem dX10_window_61 : decode cX10_window 61 = .ok (.getfield 140, 3) := by decide +kernel
theorem dX10_window_64 : decode cX10_window 64 = .ok (.bipush 59, 2) := by decide +kernel
theorem dX10_window_66 : decode cX10_window 66 = .ok (.if_icmp .ne 7, 3) := by decide +kernel
theorem dX10_window_69 : decode cX10_window 69 = .ok (.iconst 1, 1) := by decide +kernel
theorem dX10_window_70 : decode cX10_window 70 = .ok (.goto 4, 3) := by decide +kernel
theorem dX10_window_73 : decode cX10_window 73 = .ok (.iconst 0, 1) := by decide +kernel
theorem dX10_window_74 : decode cX10_window 74 = .ok (.istore_n 2, 1) := by decide +kernel
theorem dX10_window_75 : decode cX10_window 75 = .ok (.goto (-58), 3) := by decide +kernel
theorem dX10_window_78 : decode cX10_window 78 = .ok (.aload_n 0, 1) := by decide +kernel
theorem dX10_window_79 : decode cX10_window 79 = .ok (.aload_n 0, 1) := by decide +kernel
theorem dX10_window_80 : decode cX10_window 80 = .ok (.getfield 53, 3) := by decide +kernel
theorem dX10_window_83 : decode cX10_window 83 = .ok (.invokevirtual 191, 3) := by decide +kernel
theorem dX10_window_86 : decode cX10_window 86 = .ok (.aload_n 0, 1) := by decide +kernel
theorem dX10_window_87 : decode cX10_window 87 = .ok (.iconst 0, 1) := by decide +kernel
theorem dX10_window_88 : decode cX10_window 88 = .ok (.putfield 131, 3) := by decide +kernel
theorem dX10_window_91 : decode cX10_window 91 = .ok (.aload_n 0, 1) := by decide +kernel
theorem dX10_window_92 : decode cX10_window 92 = .ok (.bipush (-2), 2) := by decide +kernel
theorem dX10_window_94 : decode cX10_window 94 = .ok (.invokevirtual 96, 3) := by decide +kernel
theorem dX10_window_97 : decode cX10_window 97 = .ok (.pop, 1) := by decide +kernel
theorem dX10_window_98 : decode cX10_window 98 = .ok (.bipush (-20), 2) := by decide +kernel
theorem dX10_window_100 : decode cX10_window 100 = .ok (.aload_n 0, 1) := by decide +kernel
theorem dX10_window_101 : decode cX10_window 101 = .ok (.getfield 137, 3) := by decide +kernel
theorem dX10_window_104 : decode cX10_window 104 = .ok (.isub, 1) := by decide +kernel
theorem dX10_window_105 : decode cX10_window 105 = .ok (.ireturn, 1) := by decide +kernel
theorem dX10_sortAt_0 : decode cX10_sortAt 0 = .ok (.iload_n 1, 1) := by decide +kernel
theorem dX10_sortAt_1 : decode cX10_sortAt 1 = .ok (.invokestatic 121, 3) := by decide +kernel
theorem dX10_sortAt_4 : decode cX10_sortAt 4 = .ok (.ifCond .eq 12, 3) := by decide +kernel
theorem dX10_sortAt_7 : decode cX10_sortAt 7 = .ok (.aload_n 0, 1) := by decide +kernel
theorem dX10_sortAt_8 : decode cX10_sortAt 8 = .ok (.getfield 9, 3) := by decide +kernel
theorem dX10_sortAt_11 : decode cX10_sortAt 11 = .ok (.iload_n 1, 1) := by decide +kernel
theorem dX10_sortAt_12 : decode cX10_sortAt 12 = .ok (.iaload, 1) := by decide +kernel
theorem dX10_sortAt_13 : decode cX10_sortAt 13 = .ok (.goto 9, 3) := by decide +kernel
theorem dX10_sortAt_16 : decode cX10_sortAt 16 = .ok (.aload_n 0, 1) := by decide +kernel
theorem dX10_sortAt_17 : decode cX10_sortAt 17 = .ok (.bipush (-2), 2) := by decide +kernel
theorem dX10_sortAt_19 : decode cX10_sortAt 19 = .ok (.invokevirtual 96, 3) := by decide +kernel
theorem dX10_sortAt_22 : decode cX10_sortAt 22 = .ok (.ireturn, 1) := by decide +kernel
theorem dX10_lookerOf_0 : decode cX10_lookerOf 0 = .ok (.aload_n 0, 1) := by decide +kernel
theorem dX10_lookerOf_1 : decode cX10_lookerOf 1 = .ok (.iload_n 1, 1) := by decide +kernel
theorem dX10_lookerOf_2 : decode cX10_lookerOf 2 = .ok (.invokevirtual 110, 3) := by decide +kernel
theorem dX10_lookerOf_5 : decode cX10_lookerOf 5 = .ok (.ifCond .ne 10, 3) := by decide +kernel
theorem dX10_lookerOf_8 : decode cX10_lookerOf 8 = .ok (.aload_n 0, 1) := by decide +kernel
theorem dX10_lookerOf_9 : decode cX10_lookerOf 9 = .ok (.bipush (-2), 2) := by decide +kernel
theorem dX10_lookerOf_11 : decode cX10_lookerOf 11 = .ok (.invokevirtual 96, 3) := by decide +kernel
theorem dX10_lookerOf_14 : decode cX10_lookerOf 14 = .ok (.ireturn, 1) := by decide +kernel
theorem dX10_lookerOf_15 : decode cX10_lookerOf 15 = .ok (.iload_n 2, 1) := by decide +kernel
theorem dX10_lookerOf_16 : decode cX10_lookerOf 16 = .ok (.tableswitch 82 0 5 #[40, 47, 54, 61, 68, 75], 40) := by decide +kernel
theorem dX10_lookerOf_56 : decode cX10_lookerOf 56 = .ok (.aload_n 0, 1) := by decide +kernel
theorem dX10_lookerOf_57 : decode cX10_lookerOf 57 = .ok (.getfield 13, 3) := by decide +kernel
theorem dX10_lookerOf_60 : decode cX10_lookerOf 60 = .ok (.iload_n 1, 1) := by decide +kernel
theorem dX10_lookerOf_61 : decode cX10_lookerOf 61 = .ok (.iaload, 1) := by decide +kernel
theorem dX10_lookerOf_62 : decode cX10_lookerOf 62 = .ok (.ireturn, 1) := by decide +kernel
theorem dX10_lookerOf_63 : decode cX10_lookerOf 63 = .ok (.aload_n 0, 1) := by decide +kernel
theorem dX10_lookerOf_64 : decode cX10_lookerOf 64 = .ok (.getfield 16, 3) := by decide +kernel
theorem dX10_lookerOf_67 : decode cX10_lookerOf 67 = .ok (.iload_n 1, 1) := by decide +kernel
theorem dX10_lookerOf_68 : decode cX10_lookerOf 68 = .ok (.iaload, 1) := by decide +kernel
theorem dX10_lookerOf_69 : decode cX10_lookerOf 69 = .ok (.ireturn, 1) := by decide +kernel
theorem dX10_lookerOf_70 : decode cX10_lookerOf 70 = .ok (.aload_n 0, 1) := by decide +kernel
theorem dX10_lookerOf_71 : decode cX10_lookerOf 71 = .ok (.getfield 19, 3) := by decide +kernel
theorem dX10_lookerOf_74 : decode cX10_lookerOf 74 = .ok (.iload_n 1, 1) := by decide +kernel
theorem dX10_lookerOf_75 : decode cX10_lookerOf 75 = .ok (.iaload, 1) := by decide +kernel
theorem dX10_lookerOf_76 : decode cX10_lookerOf 76 = .ok (.ireturn, 1) := by decide +kernel
theorem dX10_lookerOf_77 : decode cX10_lookerOf 77 = .ok (.aload_n 0, 1) := by decide +kernel
theorem dX10_lookerOf_78 : decode cX10_lookerOf 78 = .ok (.getfield 22, 3) := by decide +kernel
theorem dX10_lookerOf_81 : decode cX10_lookerOf 81 = .ok (.iload_n 1, 1) := by decide +kernel
theorem dX10_lookerOf_82 : decode cX10_lookerOf 82 = .ok (.iaload, 1) := by decide +kernel
theorem dX10_lookerOf_83 : decode cX10_lookerOf 83 = .ok (.ireturn, 1) := by decide +kernel
theorem dX10_lookerOf_84 : decode cX10_lookerOf 84 = .ok (.aload_n 0, 1) := by decide +kernel
theorem dX10_lookerOf_85 : decode cX10_lookerOf 85 = .ok (.getfield 25, 3) := by decide +kernel
theorem dX10_lookerOf_88 : decode cX10_lookerOf 88 = .ok (.iload_n 1, 1) := by decide +kernel
theorem dX10_lookerOf_89 : decode cX10_lookerOf 89 = .ok (.iaload, 1) := by decide +kernel
theorem dX10_lookerOf_90 : decode cX10_lookerOf 90 = .ok (.ireturn, 1) := by decide +kernel
theorem dX10_lookerOf_91 : decode cX10_lookerOf 91 = .ok (.aload_n 0, 1) := by decide +kernel
theorem dX10_lookerOf_92 : decode cX10_lookerOf 92 = .ok (.getfield 28, 3) := by decide +kernel
theorem dX10_lookerOf_95 : decode cX10_lookerOf 95 = .ok (.iload_n 1, 1) := by decide +kernel
theorem dX10_lookerOf_96 : decode cX10_lookerOf 96 = .ok (.iaload, 1) := by decide +kernel
theorem dX10_lookerOf_97 : decode cX10_lookerOf 97 = .ok (.ireturn, 1) := by decide +kernel
theorem dX10_lookerOf_98 : decode cX10_lookerOf 98 = .ok (.iload_n 2, 1) := by decide +kernel
theorem dX10_lookerOf_99 : decode cX10_lookerOf 99 = .ok (.bipush 10, 2) := by decide +kernel
theorem dX10_lookerOf_101 : decode cX10_lookerOf 101 = .ok (.bipush 17, 2) := by decide +kernel
theorem dX10_lookerOf_103 : decode cX10_lookerOf 103 = .ok (.invokestatic 85, 3) := by decide +kernel
theorem dX10_lookerOf_106 : decode cX10_lookerOf 106 = .ok (.ifCond .eq 20, 3) := by decide +kernel
theorem dX10_lookerOf_109 : decode cX10_lookerOf 109 = .ok (.aload_n 0, 1) := by decide +kernel
theorem dX10_lookerOf_110 : decode cX10_lookerOf 110 = .ok (.getfield 31, 3) := by decide +kernel
theorem dX10_lookerOf_113 : decode cX10_lookerOf 113 = .ok (.bipush 8, 2) := by decide +kernel
theorem dX10_lookerOf_115 : decode cX10_lookerOf 115 = .ok (.iload_n 1, 1) := by decide +kernel
theorem dX10_lookerOf_116 : decode cX10_lookerOf 116 = .ok (.imul, 1) := by decide +kernel
theorem dX10_lookerOf_117 : decode cX10_lookerOf 117 = .ok (.iload_n 2, 1) := by decide +kernel
theorem dX10_lookerOf_118 : decode cX10_lookerOf 118 = .ok (.iadd, 1) := by decide +kernel
theorem dX10_lookerOf_119 : decode cX10_lookerOf 119 = .ok (.bipush 10, 2) := by decide +kernel
theorem dX10_lookerOf_121 : decode cX10_lookerOf 121 = .ok (.isub, 1) := by decide +kernel
theorem dX10_lookerOf_122 : decode cX10_lookerOf 122 = .ok (.iaload, 1) := by decide +kernel
theorem dX10_lookerOf_123 : decode cX10_lookerOf 123 = .ok (.goto 9, 3) := by decide +kernel
theorem dX10_lookerOf_126 : decode cX10_lookerOf 126 = .ok (.aload_n 0, 1) := by decide +kernel
theorem dX10_lookerOf_127 : decode cX10_lookerOf 127 = .ok (.bipush (-2), 2) := by decide +kernel
theorem dX10_lookerOf_129 : decode cX10_lookerOf 129 = .ok (.invokevirtual 96, 3) := by decide +kernel
theorem dX10_lookerOf_132 : decode cX10_lookerOf 132 = .ok (.ireturn, 1) := by decide +kernel
theorem dX10_doesLike_0 : decode cX10_doesLike 0 = .ok (.iload_n 2, 1) := by decide +kernel
theorem dX10_doesLike_1 : decode cX10_doesLike 1 = .ok (.iconst (-1), 1) := by decide +kernel
theorem dX10_doesLike_2 : decode cX10_doesLike 2 = .ok (.if_icmp .eq 30, 3) := by decide +kernel
theorem dX10_doesLike_5 : decode cX10_doesLike 5 = .ok (.iload_n 2, 1) := by decide +kernel
theorem dX10_doesLike_6 : decode cX10_doesLike 6 = .ok (.aload_n 0, 1) := by decide +kernel
theorem dX10_doesLike_7 : decode cX10_doesLike 7 = .ok (.getfield 16, 3) := by decide +kernel
theorem dX10_doesLike_10 : decode cX10_doesLike 10 = .ok (.iload_n 1, 1) := by decide +kernel
theorem dX10_doesLike_11 : decode cX10_doesLike 11 = .ok (.iaload, 1) := by decide +kernel
theorem dX10_doesLike_12 : decode cX10_doesLike 12 = .ok (.if_icmp .eq 16, 3) := by decide +kernel
theorem dX10_doesLike_15 : decode cX10_doesLike 15 = .ok (.aload_n 0, 1) := by decide +kernel
theorem dX10_doesLike_16 : decode cX10_doesLike 16 = .ok (.getfield 22, 3) := by decide +kernel
theorem dX10_doesLike_19 : decode cX10_doesLike 19 = .ok (.iload_n 1, 1) := by decide +kernel
theorem dX10_doesLike_20 : decode cX10_doesLike 20 = .ok (.iaload, 1) := by decide +kernel
theorem dX10_doesLike_21 : decode cX10_doesLike 21 = .ok (.iload_n 2, 1) := by decide +kernel
theorem dX10_doesLike_22 : decode cX10_doesLike 22 = .ok (.invokestatic 194, 3) := by decide +kernel
theorem dX10_doesLike_25 : decode cX10_doesLike 25 = .ok (.ifCond .eq 7, 3) := by decide +kernel
theorem dX10_doesLike_28 : decode cX10_doesLike 28 = .ok (.iconst 1, 1) := by decide +kernel
theorem dX10_doesLike_29 : decode cX10_doesLike 29 = .ok (.goto 4, 3) := by decide +kernel
theorem dX10_doesLike_32 : decode cX10_doesLike 32 = .ok (.iconst 0, 1) := by decide +kernel
theorem dX10_doesLike_33 : decode cX10_doesLike 33 = .ok (.ireturn, 1) := by decide +kernel
theorem dX10_manyOf_0 : decode cX10_manyOf 0 = .ok (.iconst 0, 1) := by decide +kernel
theorem dX10_manyOf_1 : decode cX10_manyOf 1 = .ok (.istore_n 2, 1) := by decide +kernel
theorem dX10_manyOf_2 : decode cX10_manyOf 2 = .ok (.iconst 0, 1) := by decide +kernel
theorem dX10_manyOf_3 : decode cX10_manyOf 3 = .ok (.istore_n 3, 1) := by decide +kernel
theorem dX10_manyOf_4 : decode cX10_manyOf 4 = .ok (.iload_n 3, 1) := by decide +kernel
theorem dX10_manyOf_5 : decode cX10_manyOf 5 = .ok (.bipush 12, 2) := by decide +kernel
theorem dX10_manyOf_7 : decode cX10_manyOf 7 = .ok (.if_icmp .ge 22, 3) := by decide +kernel
theorem dX10_manyOf_10 : decode cX10_manyOf 10 = .ok (.aload_n 0, 1) := by decide +kernel
theorem dX10_manyOf_11 : decode cX10_manyOf 11 = .ok (.getfield 56, 3) := by decide +kernel
theorem dX10_manyOf_14 : decode cX10_manyOf 14 = .ok (.iload_n 3, 1) := by decide +kernel
theorem dX10_manyOf_15 : decode cX10_manyOf 15 = .ok (.iaload, 1) := by decide +kernel
theorem dX10_manyOf_16 : decode cX10_manyOf 16 = .ok (.iload_n 1, 1) := by decide +kernel
theorem dX10_manyOf_17 : decode cX10_manyOf 17 = .ok (.if_icmp .ne 6, 3) := by decide +kernel
theorem dX10_manyOf_20 : decode cX10_manyOf 20 = .ok (.iinc 2 1, 3) := by decide +kernel
theorem dX10_manyOf_23 : decode cX10_manyOf 23 = .ok (.iinc 3 1, 3) := by decide +kernel
theorem dX10_manyOf_26 : decode cX10_manyOf 26 = .ok (.goto (-22), 3) := by decide +kernel
theorem dX10_manyOf_29 : decode cX10_manyOf 29 = .ok (.iload_n 2, 1) := by decide +kernel
theorem dX10_manyOf_30 : decode cX10_manyOf 30 = .ok (.ireturn, 1) := by decide +kernel
theorem dX10_firstWith_0 : decode cX10_firstWith 0 = .ok (.iconst 0, 1) := by decide +kernel
theorem dX10_firstWith_1 : decode cX10_firstWith 1 = .ok (.istore_n 2, 1) := by decide +kernel
theorem dX10_firstWith_2 : decode cX10_firstWith 2 = .ok (.iload_n 2, 1) := by decide +kernel
theorem dX10_firstWith_3 : decode cX10_firstWith 3 = .ok (.bipush 12, 2) := by decide +kernel
theorem dX10_firstWith_5 : decode cX10_firstWith 5 = .ok (.if_icmp .ge 21, 3) := by decide +kernel
theorem dX10_firstWith_8 : decode cX10_firstWith 8 = .ok (.aload_n 0, 1) := by decide +kernel
theorem dX10_firstWith_9 : decode cX10_firstWith 9 = .ok (.getfield 56, 3) := by decide +kernel
theorem dX10_firstWith_12 : decode cX10_firstWith 12 = .ok (.iload_n 2, 1) := by decide +kernel
theorem dX10_firstWith_13 : decode cX10_firstWith 13 = .ok (.iaload, 1) := by decide +kernel
theorem dX10_firstWith_14 : decode cX10_firstWith 14 = .ok (.iload_n 1, 1) := by decide +kernel
theorem dX10_firstWith_15 : decode cX10_firstWith 15 = .ok (.if_icmp .ne 5, 3) := by decide +kernel
theorem dX10_firstWith_18 : decode cX10_firstWith 18 = .ok (.iload_n 2, 1) := by decide +kernel
theorem dX10_firstWith_19 : decode cX10_firstWith 19 = .ok (.ireturn, 1) := by decide +kernel
theorem dX10_firstWith_20 : decode cX10_firstWith 20 = .ok (.iinc 2 1, 3) := by decide +kernel
theorem dX10_firstWith_23 : decode cX10_firstWith 23 = .ok (.goto (-21), 3) := by decide +kernel
theorem dX10_firstWith_26 : decode cX10_firstWith 26 = .ok (.iconst (-1), 1) := by decide +kernel
theorem dX10_firstWith_27 : decode cX10_firstWith 27 = .ok (.ireturn, 1) := by decide +kernel
theorem dX10_takes_0 : decode cX10_takes 0 = .ok (.iload_n 2, 1) := by decide +kernel
theorem dX10_takes_1 : decode cX10_takes 1 = .ok (.iconst (-1), 1) := by decide +kernel
theorem dX10_takes_2 : decode cX10_takes 2 = .ok (.if_icmp .ne 4, 3) := by decide +kernel
theorem dX10_takes_5 : decode cX10_takes 5 = .ok (.return_, 1) := by decide +kernel
theorem dX10_takes_6 : decode cX10_takes 6 = .ok (.aload_n 0, 1) := by decide +kernel
theorem dX10_takes_7 : decode cX10_takes 7 = .ok (.getfield 62, 3) := by decide +kernel
theorem dX10_takes_10 : decode cX10_takes 10 = .ok (.iload_n 1, 1) := by decide +kernel
theorem dX10_takes_11 : decode cX10_takes 11 = .ok (.iaload, 1) := by decide +kernel
theorem dX10_takes_12 : decode cX10_takes 12 = .ok (.ifCond .ne 10, 3) := by decide +kernel
theorem dX10_takes_15 : decode cX10_takes 15 = .ok (.aload_n 0, 1) := by decide +kernel
theorem dX10_takes_16 : decode cX10_takes 16 = .ok (.getfield 65, 3) := by decide +kernel
theorem dX10_takes_19 : decode cX10_takes 19 = .ok (.iload_n 1, 1) := by decide +kernel
theorem dX10_takes_20 : decode cX10_takes 20 = .ok (.iload_n 2, 1) := by decide +kernel
theorem dX10_takes_21 : decode cX10_takes 21 = .ok (.iastore, 1) := by decide +kernel
theorem dX10_takes_22 : decode cX10_takes 22 = .ok (.aload_n 0, 1) := by decide +kernel
theorem dX10_takes_23 : decode cX10_takes 23 = .ok (.getfield 62, 3) := by decide +kernel
theorem dX10_takes_26 : decode cX10_takes 26 = .ok (.iload_n 1, 1) := by decide +kernel
theorem dX10_takes_27 : decode cX10_takes 27 = .ok (.dup2, 1) := by decide +kernel
theorem dX10_takes_28 : decode cX10_takes 28 = .ok (.iaload, 1) := by decide +kernel
theorem dX10_takes_29 : decode cX10_takes 29 = .ok (.iconst 1, 1) := by decide +kernel
theorem dX10_takes_30 : decode cX10_takes 30 = .ok (.iload_n 2, 1) := by decide +kernel
theorem dX10_takes_31 : decode cX10_takes 31 = .ok (.ishl, 1) := by decide +kernel
theorem dX10_takes_32 : decode cX10_takes 32 = .ok (.ior, 1) := by decide +kernel
theorem dX10_takes_33 : decode cX10_takes 33 = .ok (.iastore, 1) := by decide +kernel
theorem dX10_takes_34 : decode cX10_takes 34 = .ok (.aload_n 0, 1) := by decide +kernel
theorem dX10_takes_35 : decode cX10_takes 35 = .ok (.getfield 56, 3) := by decide +kernel
theorem dX10_takes_38 : decode cX10_takes 38 = .ok (.iload_n 2, 1) := by decide +kernel
theorem dX10_takes_39 : decode cX10_takes 39 = .ok (.iconst (-1), 1) := by decide +kernel
theorem dX10_takes_40 : decode cX10_takes 40 = .ok (.iastore, 1) := by decide +kernel
theorem dX10_takes_41 : decode cX10_takes 41 = .ok (.return_, 1) := by decide +kernel
theorem dX10_look_0 : decode cX10_look 0 = .ok (.aload_n 0, 1) := by decide +kernel
theorem dX10_look_1 : decode cX10_look 1 = .ok (.aload_n 0, 1) := by decide +kernel
theorem dX10_look_2 : decode cX10_look 2 = .ok (.getfield 16, 3) := by decide +kernel
theorem dX10_look_5 : decode cX10_look 5 = .ok (.iload_n 1, 1) := by decide +kernel
theorem dX10_look_6 : decode cX10_look 6 = .ok (.iaload, 1) := by decide +kernel
theorem dX10_look_7 : decode cX10_look 7 = .ok (.invokevirtual 197, 3) := by decide +kernel
theorem dX10_look_10 : decode cX10_look 10 = .ok (.istore_n 2, 1) := by decide +kernel
theorem dX10_look_11 : decode cX10_look 11 = .ok (.iconst 0, 1) := by decide +kernel
theorem dX10_look_12 : decode cX10_look 12 = .ok (.istore_n 3, 1) := by decide +kernel
theorem dX10_look_13 : decode cX10_look 13 = .ok (.iload_n 3, 1) := by decide +kernel
theorem dX10_look_14 : decode cX10_look 14 = .ok (.bipush 12, 2) := by decide +kernel
theorem dX10_look_16 : decode cX10_look 16 = .ok (.if_icmp .ge 30, 3) := by decide +kernel
theorem dX10_look_19 : decode cX10_look 19 = .ok (.iload_n 2, 1) := by decide +kernel
theorem dX10_look_20 : decode cX10_look 20 = .ok (.iconst (-1), 1) := by decide +kernel
theorem dX10_look_21 : decode cX10_look 21 = .ok (.if_icmp .ne 25, 3) := by decide +kernel
theorem dX10_look_24 : decode cX10_look 24 = .ok (.aload_n 0, 1) := by decide +kernel
theorem dX10_look_25 : decode cX10_look 25 = .ok (.iload_n 1, 1) := by decide +kernel
theorem dX10_look_26 : decode cX10_look 26 = .ok (.aload_n 0, 1) := by decide +kernel
theorem dX10_look_27 : decode cX10_look 27 = .ok (.getfield 56, 3) := by decide +kernel
theorem dX10_look_30 : decode cX10_look 30 = .ok (.iload_n 3, 1) := by decide +kernel
theorem dX10_look_31 : decode cX10_look 31 = .ok (.iaload, 1) := by decide +kernel
theorem dX10_look_32 : decode cX10_look 32 = .ok (.invokevirtual 200, 3) := by decide +kernel
theorem dX10_look_35 : decode cX10_look 35 = .ok (.ifCond .eq 5, 3) := by decide +kernel
theorem dX10_look_38 : decode cX10_look 38 = .ok (.iload_n 3, 1) := by decide +kernel
theorem dX10_look_39 : decode cX10_look 39 = .ok (.istore_n 2, 1) := by decide +kernel
theorem dX10_look_40 : decode cX10_look 40 = .ok (.iinc 3 1, 3) := by decide +kernel
theorem dX10_look_43 : decode cX10_look 43 = .ok (.goto (-30), 3) := by decide +kernel
theorem dX10_look_46 : decode cX10_look 46 = .ok (.iload_n 2, 1) := by decide +kernel
theorem dX10_look_47 : decode cX10_look 47 = .ok (.ireturn, 1) := by decide +kernel
theorem dX10_lastLiked_0 : decode cX10_lastLiked 0 = .ok (.iconst (-1), 1) := by decide +kernel
theorem dX10_lastLiked_1 : decode cX10_lastLiked 1 = .ok (.istore_n 2, 1) := by decide +kernel
theorem dX10_lastLiked_2 : decode cX10_lastLiked 2 = .ok (.iconst 0, 1) := by decide +kernel
theorem dX10_lastLiked_3 : decode cX10_lastLiked 3 = .ok (.istore_n 3, 1) := by decide +kernel
theorem dX10_lastLiked_4 : decode cX10_lastLiked 4 = .ok (.iload_n 3, 1) := by decide +kernel
theorem dX10_lastLiked_5 : decode cX10_lastLiked 5 = .ok (.bipush 12, 2) := by decide +kernel
theorem dX10_lastLiked_7 : decode cX10_lastLiked 7 = .ok (.if_icmp .ge 25, 3) := by decide +kernel
theorem dX10_lastLiked_10 : decode cX10_lastLiked 10 = .ok (.aload_n 0, 1) := by decide +kernel
theorem dX10_lastLiked_11 : decode cX10_lastLiked 11 = .ok (.iload_n 1, 1) := by decide +kernel
theorem dX10_lastLiked_12 : decode cX10_lastLiked 12 = .ok (.aload_n 0, 1) := by decide +kernel
theorem dX10_lastLiked_13 : decode cX10_lastLiked 13 = .ok (.getfield 56, 3) := by decide +kernel
theorem dX10_lastLiked_16 : decode cX10_lastLiked 16 = .ok (.iload_n 3, 1) := by decide +kernel
theorem dX10_lastLiked_17 : decode cX10_lastLiked 17 = .ok (.iaload, 1) := by decide +kernel
theorem dX10_lastLiked_18 : decode cX10_lastLiked 18 = .ok (.invokevirtual 200, 3) := by decide +kernel
theorem dX10_lastLiked_21 : decode cX10_lastLiked 21 = .ok (.ifCond .eq 5, 3) := by decide +kernel
theorem dX10_lastLiked_24 : decode cX10_lastLiked 24 = .ok (.iload_n 3, 1) := by decide +kernel
theorem dX10_lastLiked_25 : decode cX10_lastLiked 25 = .ok (.istore_n 2, 1) := by decide +kernel
theorem dX10_lastLiked_26 : decode cX10_lastLiked 26 = .ok (.iinc 3 1, 3) := by decide +kernel
theorem dX10_lastLiked_29 : decode cX10_lastLiked 29 = .ok (.goto (-25), 3) := by decide +kernel
theorem dX10_lastLiked_32 : decode cX10_lastLiked 32 = .ok (.iload_n 2, 1) := by decide +kernel
theorem dX10_lastLiked_33 : decode cX10_lastLiked 33 = .ok (.ireturn, 1) := by decide +kernel
theorem dX10_shyest_0 : decode cX10_shyest 0 = .ok (.iconst 0, 1) := by decide +kernel
theorem dX10_shyest_1 : decode cX10_shyest 1 = .ok (.istore_n 2, 1) := by decide +kernel
theorem dX10_shyest_2 : decode cX10_shyest 2 = .ok (.iconst (-1), 1) := by decide +kernel
theorem dX10_shyest_3 : decode cX10_shyest 3 = .ok (.istore_n 3, 1) := by decide +kernel
theorem dX10_shyest_4 : decode cX10_shyest 4 = .ok (.iconst 0, 1) := by decide +kernel
theorem dX10_shyest_5 : decode cX10_shyest 5 = .ok (.istore 4, 2) := by decide +kernel
theorem dX10_shyest_7 : decode cX10_shyest 7 = .ok (.iload 4, 2) := by decide +kernel
theorem dX10_shyest_9 : decode cX10_shyest 9 = .ok (.bipush 8, 2) := by decide +kernel
theorem dX10_shyest_11 : decode cX10_shyest 11 = .ok (.if_icmp .ge 46, 3) := by decide +kernel
theorem dX10_shyest_14 : decode cX10_shyest 14 = .ok (.aload_n 0, 1) := by decide +kernel
theorem dX10_shyest_15 : decode cX10_shyest 15 = .ok (.iload_n 1, 1) := by decide +kernel
theorem dX10_shyest_16 : decode cX10_shyest 16 = .ok (.iload 4, 2) := by decide +kernel
theorem dX10_shyest_18 : decode cX10_shyest 18 = .ok (.invokevirtual 200, 3) := by decide +kernel
theorem dX10_shyest_21 : decode cX10_shyest 21 = .ok (.ifCond .eq 30, 3) := by decide +kernel
theorem dX10_shyest_24 : decode cX10_shyest 24 = .ok (.aload_n 0, 1) := by decide +kernel
theorem dX10_shyest_25 : decode cX10_shyest 25 = .ok (.iload 4, 2) := by decide +kernel
theorem dX10_shyest_27 : decode cX10_shyest 27 = .ok (.invokevirtual 203, 3) := by decide +kernel
theorem dX10_shyest_30 : decode cX10_shyest 30 = .ok (.iload_n 2, 1) := by decide +kernel
theorem dX10_shyest_31 : decode cX10_shyest 31 = .ok (.if_icmp .gt 6, 3) := by decide +kernel
theorem dX10_shyest_34 : decode cX10_shyest 34 = .ok (.goto 17, 3) := by decide +kernel
theorem dX10_shyest_37 : decode cX10_shyest 37 = .ok (.aload_n 0, 1) := by decide +kernel
theorem dX10_shyest_38 : decode cX10_shyest 38 = .ok (.iload 4, 2) := by decide +kernel
theorem dX10_shyest_40 : decode cX10_shyest 40 = .ok (.invokevirtual 203, 3) := by decide +kernel
theorem dX10_shyest_43 : decode cX10_shyest 43 = .ok (.istore_n 2, 1) := by decide +kernel
theorem dX10_shyest_44 : decode cX10_shyest 44 = .ok (.aload_n 0, 1) := by decide +kernel
theorem dX10_shyest_45 : decode cX10_shyest 45 = .ok (.iload 4, 2) := by decide +kernel
theorem dX10_shyest_47 : decode cX10_shyest 47 = .ok (.invokevirtual 197, 3) := by decide +kernel
theorem dX10_shyest_50 : decode cX10_shyest 50 = .ok (.istore_n 3, 1) := by decide +kernel
theorem dX10_shyest_51 : decode cX10_shyest 51 = .ok (.iinc 4 1, 3) := by decide +kernel
theorem dX10_shyest_54 : decode cX10_shyest 54 = .ok (.goto (-47), 3) := by decide +kernel
theorem dX10_shyest_57 : decode cX10_shyest 57 = .ok (.iload_n 3, 1) := by decide +kernel
theorem dX10_shyest_58 : decode cX10_shyest 58 = .ok (.ireturn, 1) := by decide +kernel
theorem dX10_lookerGoes_0 : decode cX10_lookerGoes 0 = .ok (.aload_n 0, 1) := by decide +kernel
theorem dX10_lookerGoes_1 : decode cX10_lookerGoes 1 = .ok (.iload_n 1, 1) := by decide +kernel
theorem dX10_lookerGoes_2 : decode cX10_lookerGoes 2 = .ok (.invokevirtual 206, 3) := by decide +kernel
theorem dX10_lookerGoes_5 : decode cX10_lookerGoes 5 = .ok (.istore_n 2, 1) := by decide +kernel
theorem dX10_lookerGoes_6 : decode cX10_lookerGoes 6 = .ok (.aload_n 0, 1) := by decide +kernel
theorem dX10_lookerGoes_7 : decode cX10_lookerGoes 7 = .ok (.getfield 13, 3) := by decide +kernel
theorem dX10_lookerGoes_10 : decode cX10_lookerGoes 10 = .ok (.iload_n 1, 1) := by decide +kernel
theorem dX10_lookerGoes_11 : decode cX10_lookerGoes 11 = .ok (.iaload, 1) := by decide +kernel
theorem dX10_lookerGoes_12 : decode cX10_lookerGoes 12 = .ok (.tableswitch 146 2 5 #[32, 39, 109, 135], 32) := by decide +kernel
theorem dX10_lookerGoes_44 : decode cX10_lookerGoes 44 = .ok (.aload_n 0, 1) := by decide +kernel
theorem dX10_lookerGoes_45 : decode cX10_lookerGoes 45 = .ok (.iload_n 1, 1) := by decide +kernel
theorem dX10_lookerGoes_46 : decode cX10_lookerGoes 46 = .ok (.iload_n 2, 1) := by decide +kernel
theorem dX10_lookerGoes_47 : decode cX10_lookerGoes 47 = .ok (.invokevirtual 209, 3) := by decide +kernel
theorem dX10_lookerGoes_50 : decode cX10_lookerGoes 50 = .ok (.return_, 1) := by decide +kernel
theorem dX10_lookerGoes_51 : decode cX10_lookerGoes 51 = .ok (.aload_n 0, 1) := by decide +kernel
theorem dX10_lookerGoes_52 : decode cX10_lookerGoes 52 = .ok (.aload_n 0, 1) := by decide +kernel
theorem dX10_lookerGoes_53 : decode cX10_lookerGoes 53 = .ok (.getfield 16, 3) := by decide +kernel
theorem dX10_lookerGoes_56 : decode cX10_lookerGoes 56 = .ok (.iload_n 1, 1) := by decide +kernel
theorem dX10_lookerGoes_57 : decode cX10_lookerGoes 57 = .ok (.iaload, 1) := by decide +kernel
theorem dX10_lookerGoes_58 : decode cX10_lookerGoes 58 = .ok (.invokevirtual 197, 3) := by decide +kernel
theorem dX10_lookerGoes_61 : decode cX10_lookerGoes 61 = .ok (.iconst (-1), 1) := by decide +kernel
theorem dX10_lookerGoes_62 : decode cX10_lookerGoes 62 = .ok (.if_icmp .ne 26, 3) := by decide +kernel
theorem dX10_lookerGoes_65 : decode cX10_lookerGoes 65 = .ok (.aload_n 0, 1) := by decide +kernel
theorem dX10_lookerGoes_66 : decode cX10_lookerGoes 66 = .ok (.iload_n 1, 1) := by decide +kernel
theorem dX10_lookerGoes_67 : decode cX10_lookerGoes 67 = .ok (.aload_n 0, 1) := by decide +kernel
theorem dX10_lookerGoes_68 : decode cX10_lookerGoes 68 = .ok (.iload_n 1, 1) := by decide +kernel
theorem dX10_lookerGoes_69 : decode cX10_lookerGoes 69 = .ok (.invokevirtual 213, 3) := by decide +kernel
theorem dX10_lookerGoes_72 : decode cX10_lookerGoes 72 = .ok (.invokevirtual 209, 3) := by decide +kernel
theorem dX10_lookerGoes_75 : decode cX10_lookerGoes 75 = .ok (.aload_n 0, 1) := by decide +kernel
theorem dX10_lookerGoes_76 : decode cX10_lookerGoes 76 = .ok (.iload_n 1, 1) := by decide +kernel
theorem dX10_lookerGoes_77 : decode cX10_lookerGoes 77 = .ok (.aload_n 0, 1) := by decide +kernel
theorem dX10_lookerGoes_78 : decode cX10_lookerGoes 78 = .ok (.iload_n 1, 1) := by decide +kernel
theorem dX10_lookerGoes_79 : decode cX10_lookerGoes 79 = .ok (.invokevirtual 213, 3) := by decide +kernel
theorem dX10_lookerGoes_82 : decode cX10_lookerGoes 82 = .ok (.invokevirtual 209, 3) := by decide +kernel
theorem dX10_lookerGoes_85 : decode cX10_lookerGoes 85 = .ok (.goto 35, 3) := by decide +kernel
theorem dX10_lookerGoes_88 : decode cX10_lookerGoes 88 = .ok (.aload_n 0, 1) := by decide +kernel
theorem dX10_lookerGoes_89 : decode cX10_lookerGoes 89 = .ok (.aload_n 0, 1) := by decide +kernel
theorem dX10_lookerGoes_90 : decode cX10_lookerGoes 90 = .ok (.getfield 16, 3) := by decide +kernel
theorem dX10_lookerGoes_93 : decode cX10_lookerGoes 93 = .ok (.iload_n 1, 1) := by decide +kernel
theorem dX10_lookerGoes_94 : decode cX10_lookerGoes 94 = .ok (.iaload, 1) := by decide +kernel
theorem dX10_lookerGoes_95 : decode cX10_lookerGoes 95 = .ok (.invokevirtual 197, 3) := by decide +kernel
theorem dX10_lookerGoes_98 : decode cX10_lookerGoes 98 = .ok (.iconst (-1), 1) := by decide +kernel
theorem dX10_lookerGoes_99 : decode cX10_lookerGoes 99 = .ok (.if_icmp .eq 21, 3) := by decide +kernel
theorem dX10_lookerGoes_102 : decode cX10_lookerGoes 102 = .ok (.aload_n 0, 1) := by decide +kernel
theorem dX10_lookerGoes_103 : decode cX10_lookerGoes 103 = .ok (.iload_n 1, 1) := by decide +kernel
theorem dX10_lookerGoes_104 : decode cX10_lookerGoes 104 = .ok (.aload_n 0, 1) := by decide +kernel
theorem dX10_lookerGoes_105 : decode cX10_lookerGoes 105 = .ok (.aload_n 0, 1) := by decide +kernel
theorem dX10_lookerGoes_106 : decode cX10_lookerGoes 106 = .ok (.getfield 16, 3) := by decide +kernel
theorem dX10_lookerGoes_109 : decode cX10_lookerGoes 109 = .ok (.iload_n 1, 1) := by decide +kernel
theorem dX10_lookerGoes_110 : decode cX10_lookerGoes 110 = .ok (.iaload, 1) := by decide +kernel
theorem dX10_lookerGoes_111 : decode cX10_lookerGoes 111 = .ok (.invokevirtual 197, 3) := by decide +kernel
theorem dX10_lookerGoes_114 : decode cX10_lookerGoes 114 = .ok (.invokevirtual 209, 3) := by decide +kernel
theorem dX10_lookerGoes_117 : decode cX10_lookerGoes 117 = .ok (.goto (-29), 3) := by decide +kernel
theorem dX10_lookerGoes_120 : decode cX10_lookerGoes 120 = .ok (.return_, 1) := by decide +kernel
theorem dX10_lookerGoes_121 : decode cX10_lookerGoes 121 = .ok (.iload_n 2, 1) := by decide +kernel
theorem dX10_lookerGoes_122 : decode cX10_lookerGoes 122 = .ok (.iconst (-1), 1) := by decide +kernel
theorem dX10_lookerGoes_123 : decode cX10_lookerGoes 123 = .ok (.if_icmp .eq 23, 3) := by decide +kernel
theorem dX10_lookerGoes_126 : decode cX10_lookerGoes 126 = .ok (.aload_n 0, 1) := by decide +kernel
theorem dX10_lookerGoes_127 : decode cX10_lookerGoes 127 = .ok (.aload_n 0, 1) := by decide +kernel
theorem dX10_lookerGoes_128 : decode cX10_lookerGoes 128 = .ok (.getfield 56, 3) := by decide +kernel
theorem dX10_lookerGoes_131 : decode cX10_lookerGoes 131 = .ok (.iload_n 2, 1) := by decide +kernel
theorem dX10_lookerGoes_132 : decode cX10_lookerGoes 132 = .ok (.iaload, 1) := by decide +kernel
theorem dX10_lookerGoes_133 : decode cX10_lookerGoes 133 = .ok (.invokevirtual 203, 3) := by decide +kernel
theorem dX10_lookerGoes_136 : decode cX10_lookerGoes 136 = .ok (.iconst 1, 1) := by decide +kernel
theorem dX10_lookerGoes_137 : decode cX10_lookerGoes 137 = .ok (.if_icmp .le 9, 3) := by decide +kernel
theorem dX10_lookerGoes_140 : decode cX10_lookerGoes 140 = .ok (.aload_n 0, 1) := by decide +kernel
theorem dX10_lookerGoes_141 : decode cX10_lookerGoes 141 = .ok (.iload_n 1, 1) := by decide +kernel
theorem dX10_lookerGoes_142 : decode cX10_lookerGoes 142 = .ok (.iload_n 2, 1) := by decide +kernel
theorem dX10_lookerGoes_143 : decode cX10_lookerGoes 143 = .ok (.invokevirtual 209, 3) := by decide +kernel
theorem dX10_lookerGoes_146 : decode cX10_lookerGoes 146 = .ok (.return_, 1) := by decide +kernel
theorem dX10_lookerGoes_147 : decode cX10_lookerGoes 147 = .ok (.aload_n 0, 1) := by decide +kernel
theorem dX10_lookerGoes_148 : decode cX10_lookerGoes 148 = .ok (.iload_n 1, 1) := by decide +kernel
theorem dX10_lookerGoes_149 : decode cX10_lookerGoes 149 = .ok (.aload_n 0, 1) := by decide +kernel
theorem dX10_lookerGoes_150 : decode cX10_lookerGoes 150 = .ok (.iload_n 1, 1) := by decide +kernel
theorem dX10_lookerGoes_151 : decode cX10_lookerGoes 151 = .ok (.invokevirtual 216, 3) := by decide +kernel
theorem dX10_lookerGoes_154 : decode cX10_lookerGoes 154 = .ok (.invokevirtual 209, 3) := by decide +kernel
theorem dX10_lookerGoes_157 : decode cX10_lookerGoes 157 = .ok (.return_, 1) := by decide +kernel
theorem dX10_lookerGoes_158 : decode cX10_lookerGoes 158 = .ok (.aload_n 0, 1) := by decide +kernel
theorem dX10_lookerGoes_159 : decode cX10_lookerGoes 159 = .ok (.iload_n 1, 1) := by decide +kernel
theorem dX10_lookerGoes_160 : decode cX10_lookerGoes 160 = .ok (.aload_n 0, 1) := by decide +kernel
theorem dX10_lookerGoes_161 : decode cX10_lookerGoes 161 = .ok (.iload_n 1, 1) := by decide +kernel
theorem dX10_lookerGoes_162 : decode cX10_lookerGoes 162 = .ok (.invokevirtual 213, 3) := by decide +kernel
theorem dX10_lookerGoes_165 : decode cX10_lookerGoes 165 = .ok (.invokevirtual 209, 3) := by decide +kernel
theorem dX10_lookerGoes_168 : decode cX10_lookerGoes 168 = .ok (.aload_n 0, 1) := by decide +kernel
theorem dX10_lookerGoes_169 : decode cX10_lookerGoes 169 = .ok (.getfield 13, 3) := by decide +kernel
theorem dX10_lookerGoes_172 : decode cX10_lookerGoes 172 = .ok (.iload_n 1, 1) := by decide +kernel
theorem dX10_lookerGoes_173 : decode cX10_lookerGoes 173 = .ok (.iaload, 1) := by decide +kernel
theorem dX10_lookerGoes_174 : decode cX10_lookerGoes 174 = .ok (.iconst 1, 1) := by decide +kernel
theorem dX10_lookerGoes_175 : decode cX10_lookerGoes 175 = .ok (.if_icmp .ne 13, 3) := by decide +kernel
theorem dX10_lookerGoes_178 : decode cX10_lookerGoes 178 = .ok (.aload_n 0, 1) := by decide +kernel
theorem dX10_lookerGoes_179 : decode cX10_lookerGoes 179 = .ok (.iload_n 1, 1) := by decide +kernel
theorem dX10_lookerGoes_180 : decode cX10_lookerGoes 180 = .ok (.aload_n 0, 1) := by decide +kernel
theorem dX10_lookerGoes_181 : decode cX10_lookerGoes 181 = .ok (.iload_n 1, 1) := by decide +kernel
theorem dX10_lookerGoes_182 : decode cX10_lookerGoes 182 = .ok (.invokevirtual 213, 3) := by decide +kernel
theorem dX10_lookerGoes_185 : decode cX10_lookerGoes 185 = .ok (.invokevirtual 209, 3) := by decide +kernel
theorem dX10_lookerGoes_188 : decode cX10_lookerGoes 188 = .ok (.return_, 1) := by decide +kernel
theorem dX10_orders_0 : decode cX10_orders 0 = .ok (.aload_n 0, 1) := by decide +kernel
theorem dX10_orders_1 : decode cX10_orders 1 = .ok (.iconst 0, 1) := by decide +kernel
theorem dX10_orders_2 : decode cX10_orders 2 = .ok (.putfield 219, 3) := by decide +kernel
theorem dX10_orders_5 : decode cX10_orders 5 = .ok (.iconst 0, 1) := by decide +kernel
theorem dX10_orders_6 : decode cX10_orders 6 = .ok (.istore_n 2, 1) := by decide +kernel
theorem dX10_orders_7 : decode cX10_orders 7 = .ok (.iload_n 2, 1) := by decide +kernel
theorem dX10_orders_8 : decode cX10_orders 8 = .ok (.aload_n 0, 1) := by decide +kernel
theorem dX10_orders_9 : decode cX10_orders 9 = .ok (.getfield 89, 3) := by decide +kernel
theorem dX10_orders_12 : decode cX10_orders 12 = .ok (.if_icmp .ge 85, 3) := by decide +kernel
theorem dX10_orders_15 : decode cX10_orders 15 = .ok (.iload_n 1, 1) := by decide +kernel
theorem dX10_orders_16 : decode cX10_orders 16 = .ok (.iload_n 2, 1) := by decide +kernel
theorem dX10_orders_17 : decode cX10_orders 17 = .ok (.invokestatic 194, 3) := by decide +kernel
theorem dX10_orders_20 : decode cX10_orders 20 = .ok (.ifCond .ne 6, 3) := by decide +kernel
theorem dX10_orders_23 : decode cX10_orders 23 = .ok (.goto 68, 3) := by decide +kernel
theorem dX10_orders_26 : decode cX10_orders 26 = .ok (.aload_n 0, 1) := by decide +kernel
theorem dX10_orders_27 : decode cX10_orders 27 = .ok (.dup, 1) := by decide +kernel
theorem dX10_orders_28 : decode cX10_orders 28 = .ok (.getfield 219, 3) := by decide +kernel
theorem dX10_orders_31 : decode cX10_orders 31 = .ok (.dup_x1, 1) := by decide +kernel
theorem dX10_orders_32 : decode cX10_orders 32 = .ok (.iconst 1, 1) := by decide +kernel
theorem dX10_orders_33 : decode cX10_orders 33 = .ok (.iadd, 1) := by decide +kernel
theorem dX10_orders_34 : decode cX10_orders 34 = .ok (.putfield 219, 3) := by decide +kernel
theorem dX10_orders_37 : decode cX10_orders 37 = .ok (.istore_n 3, 1) := by decide +kernel
theorem dX10_orders_38 : decode cX10_orders 38 = .ok (.iload_n 3, 1) := by decide +kernel
theorem dX10_orders_39 : decode cX10_orders 39 = .ok (.ifCond .le 45, 3) := by decide +kernel
theorem dX10_orders_42 : decode cX10_orders 42 = .ok (.aload_n 0, 1) := by decide +kernel
theorem dX10_orders_43 : decode cX10_orders 43 = .ok (.getfield 19, 3) := by decide +kernel
theorem dX10_orders_46 : decode cX10_orders 46 = .ok (.aload_n 0, 1) := by decide +kernel
theorem dX10_orders_47 : decode cX10_orders 47 = .ok (.getfield 59, 3) := by decide +kernel
theorem dX10_orders_50 : decode cX10_orders 50 = .ok (.iload_n 3, 1) := by decide +kernel
theorem dX10_orders_51 : decode cX10_orders 51 = .ok (.iconst 1, 1) := by decide +kernel
theorem dX10_orders_52 : decode cX10_orders 52 = .ok (.isub, 1) := by decide +kernel
theorem dX10_orders_53 : decode cX10_orders 53 = .ok (.iaload, 1) := by decide +kernel
theorem dX10_orders_54 : decode cX10_orders 54 = .ok (.iaload, 1) := by decide +kernel
theorem dX10_orders_55 : decode cX10_orders 55 = .ok (.aload_n 0, 1) := by decide +kernel
theorem dX10_orders_56 : decode cX10_orders 56 = .ok (.getfield 19, 3) := by decide +kernel
theorem dX10_orders_59 : decode cX10_orders 59 = .ok (.iload_n 2, 1) := by decide +kernel
theorem dX10_orders_60 : decode cX10_orders 60 = .ok (.iaload, 1) := by decide +kernel
theorem dX10_orders_61 : decode cX10_orders 61 = .ok (.if_icmp .le 23, 3) := by decide +kernel
theorem dX10_orders_64 : decode cX10_orders 64 = .ok (.aload_n 0, 1) := by decide +kernel
theorem dX10_orders_65 : decode cX10_orders 65 = .ok (.getfield 59, 3) := by decide +kernel
theorem dX10_orders_68 : decode cX10_orders 68 = .ok (.iload_n 3, 1) := by decide +kernel
theorem dX10_orders_69 : decode cX10_orders 69 = .ok (.aload_n 0, 1) := by decide +kernel
theorem dX10_orders_70 : decode cX10_orders 70 = .ok (.getfield 59, 3) := by decide +kernel
theorem dX10_orders_73 : decode cX10_orders 73 = .ok (.iload_n 3, 1) := by decide +kernel
theorem dX10_orders_74 : decode cX10_orders 74 = .ok (.iconst 1, 1) := by decide +kernel
theorem dX10_orders_75 : decode cX10_orders 75 = .ok (.isub, 1) := by decide +kernel
theorem dX10_orders_76 : decode cX10_orders 76 = .ok (.iaload, 1) := by decide +kernel
theorem dX10_orders_77 : decode cX10_orders 77 = .ok (.iastore, 1) := by decide +kernel
theorem dX10_orders_78 : decode cX10_orders 78 = .ok (.iinc 3 (-1), 3) := by decide +kernel
theorem dX10_orders_81 : decode cX10_orders 81 = .ok (.goto (-43), 3) := by decide +kernel
theorem dX10_orders_84 : decode cX10_orders 84 = .ok (.aload_n 0, 1) := by decide +kernel
theorem dX10_orders_85 : decode cX10_orders 85 = .ok (.getfield 59, 3) := by decide +kernel
theorem dX10_orders_88 : decode cX10_orders 88 = .ok (.iload_n 3, 1) := by decide +kernel
theorem dX10_orders_89 : decode cX10_orders 89 = .ok (.iload_n 2, 1) := by decide +kernel
theorem dX10_orders_90 : decode cX10_orders 90 = .ok (.iastore, 1) := by decide +kernel
theorem dX10_orders_91 : decode cX10_orders 91 = .ok (.iinc 2 1, 3) := by decide +kernel
theorem dX10_orders_94 : decode cX10_orders 94 = .ok (.goto (-87), 3) := by decide +kernel
theorem dX10_orders_97 : decode cX10_orders 97 = .ok (.return_, 1) := by decide +kernel
theorem dX10_begins_0 : decode cX10_begins 0 = .ok (.iconst 0, 1) := by decide +kernel
theorem dX10_begins_1 : decode cX10_begins 1 = .ok (.istore_n 2, 1) := by decide +kernel
theorem dX10_begins_2 : decode cX10_begins 2 = .ok (.iload_n 2, 1) := by decide +kernel
theorem dX10_begins_3 : decode cX10_begins 3 = .ok (.bipush 12, 2) := by decide +kernel
theorem dX10_begins_5 : decode cX10_begins 5 = .ok (.if_icmp .ge 21, 3) := by decide +kernel
theorem dX10_begins_8 : decode cX10_begins 8 = .ok (.aload_n 0, 1) := by decide +kernel
theorem dX10_begins_9 : decode cX10_begins 9 = .ok (.getfield 56, 3) := by decide +kernel
theorem dX10_begins_12 : decode cX10_begins 12 = .ok (.iload_n 2, 1) := by decide +kernel
theorem dX10_begins_13 : decode cX10_begins 13 = .ok (.aload_n 0, 1) := by decide +kernel
theorem dX10_begins_14 : decode cX10_begins 14 = .ok (.getfield 9, 3) := by decide +kernel
theorem dX10_begins_17 : decode cX10_begins 17 = .ok (.iload_n 2, 1) := by decide +kernel
theorem dX10_begins_18 : decode cX10_begins 18 = .ok (.iaload, 1) := by decide +kernel
theorem dX10_begins_19 : decode cX10_begins 19 = .ok (.iastore, 1) := by decide +kernel
theorem dX10_begins_20 : decode cX10_begins 20 = .ok (.iinc 2 1, 3) := by decide +kernel
theorem dX10_begins_23 : decode cX10_begins 23 = .ok (.goto (-21), 3) := by decide +kernel
theorem dX10_begins_26 : decode cX10_begins 26 = .ok (.iconst 0, 1) := by decide +kernel
theorem dX10_begins_27 : decode cX10_begins 27 = .ok (.istore_n 2, 1) := by decide +kernel
theorem dX10_begins_28 : decode cX10_begins 28 = .ok (.iload_n 2, 1) := by decide +kernel
theorem dX10_begins_29 : decode cX10_begins 29 = .ok (.bipush 8, 2) := by decide +kernel
theorem dX10_begins_31 : decode cX10_begins 31 = .ok (.if_icmp .ge 23, 3) := by decide +kernel
theorem dX10_begins_34 : decode cX10_begins 34 = .ok (.aload_n 0, 1) := by decide +kernel
theorem dX10_begins_35 : decode cX10_begins 35 = .ok (.getfield 62, 3) := by decide +kernel
theorem dX10_begins_38 : decode cX10_begins 38 = .ok (.iload_n 2, 1) := by decide +kernel
theorem dX10_begins_39 : decode cX10_begins 39 = .ok (.iconst 0, 1) := by decide +kernel
theorem dX10_begins_40 : decode cX10_begins 40 = .ok (.iastore, 1) := by decide +kernel
theorem dX10_begins_41 : decode cX10_begins 41 = .ok (.aload_n 0, 1) := by decide +kernel
theorem dX10_begins_42 : decode cX10_begins 42 = .ok (.getfield 65, 3) := by decide +kernel
theorem dX10_begins_45 : decode cX10_begins 45 = .ok (.iload_n 2, 1) := by decide +kernel
theorem dX10_begins_46 : decode cX10_begins 46 = .ok (.iconst (-1), 1) := by decide +kernel
theorem dX10_begins_47 : decode cX10_begins 47 = .ok (.iastore, 1) := by decide +kernel
theorem dX10_begins_48 : decode cX10_begins 48 = .ok (.iinc 2 1, 3) := by decide +kernel
theorem dX10_begins_51 : decode cX10_begins 51 = .ok (.goto (-23), 3) := by decide +kernel
theorem dX10_begins_54 : decode cX10_begins 54 = .ok (.aload_n 0, 1) := by decide +kernel
theorem dX10_begins_55 : decode cX10_begins 55 = .ok (.iload_n 1, 1) := by decide +kernel
theorem dX10_begins_56 : decode cX10_begins 56 = .ok (.invokevirtual 222, 3) := by decide +kernel
theorem dX10_begins_59 : decode cX10_begins 59 = .ok (.return_, 1) := by decide +kernel
theorem dX10_runs_0 : decode cX10_runs 0 = .ok (.aload_n 0, 1) := by decide +kernel
theorem dX10_runs_1 : decode cX10_runs 1 = .ok (.iload_n 1, 1) := by decide +kernel
theorem dX10_runs_2 : decode cX10_runs 2 = .ok (.invokevirtual 225, 3) := by decide +kernel
theorem dX10_runs_5 : decode cX10_runs 5 = .ok (.iconst 0, 1) := by decide +kernel
theorem dX10_runs_6 : decode cX10_runs 6 = .ok (.istore_n 2, 1) := by decide +kernel
theorem dX10_runs_7 : decode cX10_runs 7 = .ok (.iload_n 2, 1) := by decide +kernel
theorem dX10_runs_8 : decode cX10_runs 8 = .ok (.aload_n 0, 1) := by decide +kernel
theorem dX10_runs_9 : decode cX10_runs 9 = .ok (.getfield 219, 3) := by decide +kernel
theorem dX10_runs_12 : decode cX10_runs 12 = .ok (.if_icmp .ge 19, 3) := by decide +kernel
theorem dX10_runs_15 : decode cX10_runs 15 = .ok (.aload_n 0, 1) := by decide +kernel
theorem dX10_runs_16 : decode cX10_runs 16 = .ok (.aload_n 0, 1) := by decide +kernel
theorem dX10_runs_17 : decode cX10_runs 17 = .ok (.getfield 59, 3) := by decide +kernel
theorem dX10_runs_20 : decode cX10_runs 20 = .ok (.iload_n 2, 1) := by decide +kernel
theorem dX10_runs_21 : decode cX10_runs 21 = .ok (.iaload, 1) := by decide +kernel
theorem dX10_runs_22 : decode cX10_runs 22 = .ok (.invokevirtual 228, 3) := by decide +kernel
theorem dX10_runs_25 : decode cX10_runs 25 = .ok (.iinc 2 1, 3) := by decide +kernel
theorem dX10_runs_28 : decode cX10_runs 28 = .ok (.goto (-21), 3) := by decide +kernel
theorem dX10_runs_31 : decode cX10_runs 31 = .ok (.return_, 1) := by decide +kernel
theorem dX10_leftThen_0 : decode cX10_leftThen 0 = .ok (.iconst 0, 1) := by decide +kernel
theorem dX10_leftThen_1 : decode cX10_leftThen 1 = .ok (.istore_n 1, 1) := by decide +kernel
theorem dX10_leftThen_2 : decode cX10_leftThen 2 = .ok (.iconst 0, 1) := by decide +kernel
theorem dX10_leftThen_3 : decode cX10_leftThen 3 = .ok (.istore_n 2, 1) := by decide +kernel
theorem dX10_leftThen_4 : decode cX10_leftThen 4 = .ok (.iload_n 2, 1) := by decide +kernel
theorem dX10_leftThen_5 : decode cX10_leftThen 5 = .ok (.bipush 12, 2) := by decide +kernel
theorem dX10_leftThen_7 : decode cX10_leftThen 7 = .ok (.if_icmp .ge 25, 3) := by decide +kernel
theorem dX10_leftThen_10 : decode cX10_leftThen 10 = .ok (.aload_n 0, 1) := by decide +kernel
theorem dX10_leftThen_11 : decode cX10_leftThen 11 = .ok (.getfield 56, 3) := by decide +kernel
theorem dX10_leftThen_14 : decode cX10_leftThen 14 = .ok (.iload_n 2, 1) := by decide +kernel
theorem dX10_leftThen_15 : decode cX10_leftThen 15 = .ok (.iaload, 1) := by decide +kernel
theorem dX10_leftThen_16 : decode cX10_leftThen 16 = .ok (.iconst (-1), 1) := by decide +kernel
theorem dX10_leftThen_17 : decode cX10_leftThen 17 = .ok (.if_icmp .eq 9, 3) := by decide +kernel
theorem dX10_leftThen_20 : decode cX10_leftThen 20 = .ok (.iload_n 1, 1) := by decide +kernel
theorem dX10_leftThen_21 : decode cX10_leftThen 21 = .ok (.iconst 1, 1) := by decide +kernel
theorem dX10_leftThen_22 : decode cX10_leftThen 22 = .ok (.iload_n 2, 1) := by decide +kernel
theorem dX10_leftThen_23 : decode cX10_leftThen 23 = .ok (.ishl, 1) := by decide +kernel
theorem dX10_leftThen_24 : decode cX10_leftThen 24 = .ok (.ior, 1) := by decide +kernel
theorem dX10_leftThen_25 : decode cX10_leftThen 25 = .ok (.istore_n 1, 1) := by decide +kernel
theorem dX10_leftThen_26 : decode cX10_leftThen 26 = .ok (.iinc 2 1, 3) := by decide +kernel
theorem dX10_leftThen_29 : decode cX10_leftThen 29 = .ok (.goto (-25), 3) := by decide +kernel
theorem dX10_leftThen_32 : decode cX10_leftThen 32 = .ok (.iload_n 1, 1) := by decide +kernel
theorem dX10_leftThen_33 : decode cX10_leftThen 33 = .ok (.ireturn, 1) := by decide +kernel
theorem dX10_isGlad_0 : decode cX10_isGlad 0 = .ok (.iconst 0, 1) := by decide +kernel
theorem dX10_isGlad_1 : decode cX10_isGlad 1 = .ok (.istore_n 2, 1) := by decide +kernel
theorem dX10_isGlad_2 : decode cX10_isGlad 2 = .ok (.iload_n 2, 1) := by decide +kernel
theorem dX10_isGlad_3 : decode cX10_isGlad 3 = .ok (.bipush 12, 2) := by decide +kernel
theorem dX10_isGlad_5 : decode cX10_isGlad 5 = .ok (.if_icmp .ge 39, 3) := by decide +kernel
theorem dX10_isGlad_8 : decode cX10_isGlad 8 = .ok (.aload_n 0, 1) := by decide +kernel
theorem dX10_isGlad_9 : decode cX10_isGlad 9 = .ok (.getfield 62, 3) := by decide +kernel
theorem dX10_isGlad_12 : decode cX10_isGlad 12 = .ok (.iload_n 1, 1) := by decide +kernel
theorem dX10_isGlad_13 : decode cX10_isGlad 13 = .ok (.iaload, 1) := by decide +kernel
theorem dX10_isGlad_14 : decode cX10_isGlad 14 = .ok (.iload_n 2, 1) := by decide +kernel
theorem dX10_isGlad_15 : decode cX10_isGlad 15 = .ok (.invokestatic 194, 3) := by decide +kernel
theorem dX10_isGlad_18 : decode cX10_isGlad 18 = .ok (.ifCond .eq 20, 3) := by decide +kernel
theorem dX10_isGlad_21 : decode cX10_isGlad 21 = .ok (.aload_n 0, 1) := by decide +kernel
theorem dX10_isGlad_22 : decode cX10_isGlad 22 = .ok (.getfield 9, 3) := by decide +kernel
theorem dX10_isGlad_25 : decode cX10_isGlad 25 = .ok (.iload_n 2, 1) := by decide +kernel
theorem dX10_isGlad_26 : decode cX10_isGlad 26 = .ok (.iaload, 1) := by decide +kernel
theorem dX10_isGlad_27 : decode cX10_isGlad 27 = .ok (.aload_n 0, 1) := by decide +kernel
theorem dX10_isGlad_28 : decode cX10_isGlad 28 = .ok (.getfield 16, 3) := by decide +kernel
theorem dX10_isGlad_31 : decode cX10_isGlad 31 = .ok (.iload_n 1, 1) := by decide +kernel
theorem dX10_isGlad_32 : decode cX10_isGlad 32 = .ok (.iaload, 1) := by decide +kernel
theorem dX10_isGlad_33 : decode cX10_isGlad 33 = .ok (.if_icmp .ne 5, 3) := by decide +kernel
theorem dX10_isGlad_36 : decode cX10_isGlad 36 = .ok (.iconst 1, 1) := by decide +kernel
theorem dX10_isGlad_37 : decode cX10_isGlad 37 = .ok (.ireturn, 1) := by decide +kernel
theorem dX10_isGlad_38 : decode cX10_isGlad 38 = .ok (.iinc 2 1, 3) := by decide +kernel
theorem dX10_isGlad_41 : decode cX10_isGlad 41 = .ok (.goto (-39), 3) := by decide +kernel
theorem dX10_isGlad_44 : decode cX10_isGlad 44 = .ok (.iconst 0, 1) := by decide +kernel
theorem dX10_isGlad_45 : decode cX10_isGlad 45 = .ok (.ireturn, 1) := by decide +kernel
theorem dX10_gladOf_0 : decode cX10_gladOf 0 = .ok (.aload_n 0, 1) := by decide +kernel
theorem dX10_gladOf_1 : decode cX10_gladOf 1 = .ok (.iload_n 1, 1) := by decide +kernel
theorem dX10_gladOf_2 : decode cX10_gladOf 2 = .ok (.invokevirtual 117, 3) := by decide +kernel
theorem dX10_gladOf_5 : decode cX10_gladOf 5 = .ok (.iconst 0, 1) := by decide +kernel
theorem dX10_gladOf_6 : decode cX10_gladOf 6 = .ok (.istore_n 2, 1) := by decide +kernel
theorem dX10_gladOf_7 : decode cX10_gladOf 7 = .ok (.iconst 0, 1) := by decide +kernel
theorem dX10_gladOf_8 : decode cX10_gladOf 8 = .ok (.istore_n 3, 1) := by decide +kernel
theorem dX10_gladOf_9 : decode cX10_gladOf 9 = .ok (.iload_n 3, 1) := by decide +kernel
theorem dX10_gladOf_10 : decode cX10_gladOf 10 = .ok (.aload_n 0, 1) := by decide +kernel
theorem dX10_gladOf_11 : decode cX10_gladOf 11 = .ok (.getfield 89, 3) := by decide +kernel
theorem dX10_gladOf_14 : decode cX10_gladOf 14 = .ok (.if_icmp .ge 28, 3) := by decide +kernel
theorem dX10_gladOf_17 : decode cX10_gladOf 17 = .ok (.iload_n 1, 1) := by decide +kernel
theorem dX10_gladOf_18 : decode cX10_gladOf 18 = .ok (.iload_n 3, 1) := by decide +kernel
theorem dX10_gladOf_19 : decode cX10_gladOf 19 = .ok (.invokestatic 194, 3) := by decide +kernel
theorem dX10_gladOf_22 : decode cX10_gladOf 22 = .ok (.ifCond .eq 14, 3) := by decide +kernel
theorem dX10_gladOf_25 : decode cX10_gladOf 25 = .ok (.aload_n 0, 1) := by decide +kernel
theorem dX10_gladOf_26 : decode cX10_gladOf 26 = .ok (.iload_n 3, 1) := by decide +kernel
theorem dX10_gladOf_27 : decode cX10_gladOf 27 = .ok (.invokevirtual 231, 3) := by decide +kernel
theorem dX10_gladOf_30 : decode cX10_gladOf 30 = .ok (.ifCond .eq 6, 3) := by decide +kernel
theorem dX10_gladOf_33 : decode cX10_gladOf 33 = .ok (.iinc 2 1, 3) := by decide +kernel
theorem dX10_gladOf_36 : decode cX10_gladOf 36 = .ok (.iinc 3 1, 3) := by decide +kernel
theorem dX10_gladOf_39 : decode cX10_gladOf 39 = .ok (.goto (-30), 3) := by decide +kernel
theorem dX10_gladOf_42 : decode cX10_gladOf 42 = .ok (.iload_n 2, 1) := by decide +kernel
theorem dX10_gladOf_43 : decode cX10_gladOf 43 = .ok (.ireturn, 1) := by decide +kernel
theorem dX10_left_0 : decode cX10_left 0 = .ok (.aload_n 0, 1) := by decide +kernel
theorem dX10_left_1 : decode cX10_left 1 = .ok (.iload_n 1, 1) := by decide +kernel
theorem dX10_left_2 : decode cX10_left 2 = .ok (.invokevirtual 234, 3) := by decide +kernel
theorem dX10_left_5 : decode cX10_left 5 = .ok (.ifCond .ne 10, 3) := by decide +kernel
theorem dX10_left_8 : decode cX10_left 8 = .ok (.aload_n 0, 1) := by decide +kernel
theorem dX10_left_9 : decode cX10_left 9 = .ok (.bipush (-2), 2) := by decide +kernel
theorem dX10_left_11 : decode cX10_left 11 = .ok (.invokevirtual 96, 3) := by decide +kernel
theorem dX10_left_14 : decode cX10_left 14 = .ok (.ireturn, 1) := by decide +kernel
theorem dX10_left_15 : decode cX10_left 15 = .ok (.aload_n 0, 1) := by decide +kernel
theorem dX10_left_16 : decode cX10_left 16 = .ok (.iload_n 1, 1) := by decide +kernel
theorem dX10_left_17 : decode cX10_left 17 = .ok (.invokevirtual 117, 3) := by decide +kernel
theorem dX10_left_20 : decode cX10_left 20 = .ok (.aload_n 0, 1) := by decide +kernel
theorem dX10_left_21 : decode cX10_left 21 = .ok (.invokevirtual 237, 3) := by decide +kernel
theorem dX10_left_24 : decode cX10_left 24 = .ok (.ireturn, 1) := by decide +kernel
theorem dX10_taken_0 : decode cX10_taken 0 = .ok (.aload_n 0, 1) := by decide +kernel
theorem dX10_taken_1 : decode cX10_taken 1 = .ok (.iload_n 1, 1) := by decide +kernel
theorem dX10_taken_2 : decode cX10_taken 2 = .ok (.invokevirtual 234, 3) := by decide +kernel
theorem dX10_taken_5 : decode cX10_taken 5 = .ok (.ifCond .eq 11, 3) := by decide +kernel
theorem dX10_taken_8 : decode cX10_taken 8 = .ok (.aload_n 0, 1) := by decide +kernel
theorem dX10_taken_9 : decode cX10_taken 9 = .ok (.iload_n 2, 1) := by decide +kernel
theorem dX10_taken_10 : decode cX10_taken 10 = .ok (.invokevirtual 110, 3) := by decide +kernel
theorem dX10_taken_13 : decode cX10_taken 13 = .ok (.ifCond .ne 10, 3) := by decide +kernel
theorem dX10_taken_16 : decode cX10_taken 16 = .ok (.aload_n 0, 1) := by decide +kernel
theorem dX10_taken_17 : decode cX10_taken 17 = .ok (.bipush (-2), 2) := by decide +kernel
theorem dX10_taken_19 : decode cX10_taken 19 = .ok (.invokevirtual 96, 3) := by decide +kernel
theorem dX10_taken_22 : decode cX10_taken 22 = .ok (.ireturn, 1) := by decide +kernel
theorem dX10_taken_23 : decode cX10_taken 23 = .ok (.aload_n 0, 1) := by decide +kernel
theorem dX10_taken_24 : decode cX10_taken 24 = .ok (.iload_n 1, 1) := by decide +kernel
theorem dX10_taken_25 : decode cX10_taken 25 = .ok (.invokevirtual 117, 3) := by decide +kernel
theorem dX10_taken_28 : decode cX10_taken 28 = .ok (.aload_n 0, 1) := by decide +kernel
theorem dX10_taken_29 : decode cX10_taken 29 = .ok (.getfield 62, 3) := by decide +kernel
theorem dX10_taken_32 : decode cX10_taken 32 = .ok (.iload_n 2, 1) := by decide +kernel
theorem dX10_taken_33 : decode cX10_taken 33 = .ok (.iaload, 1) := by decide +kernel
theorem dX10_taken_34 : decode cX10_taken 34 = .ok (.ireturn, 1) := by decide +kernel
theorem dX10_glad_0 : decode cX10_glad 0 = .ok (.aload_n 0, 1) := by decide +kernel
theorem dX10_glad_1 : decode cX10_glad 1 = .ok (.iload_n 1, 1) := by decide +kernel
theorem dX10_glad_2 : decode cX10_glad 2 = .ok (.invokevirtual 234, 3) := by decide +kernel
theorem dX10_glad_5 : decode cX10_glad 5 = .ok (.ifCond .eq 12, 3) := by decide +kernel
theorem dX10_glad_8 : decode cX10_glad 8 = .ok (.iload_n 2, 1) := by decide +kernel
theorem dX10_glad_9 : decode cX10_glad 9 = .ok (.iconst 0, 1) := by decide +kernel
theorem dX10_glad_10 : decode cX10_glad 10 = .ok (.iconst 1, 1) := by decide +kernel
theorem dX10_glad_11 : decode cX10_glad 11 = .ok (.invokestatic 85, 3) := by decide +kernel
theorem dX10_glad_14 : decode cX10_glad 14 = .ok (.ifCond .ne 10, 3) := by decide +kernel
theorem dX10_glad_17 : decode cX10_glad 17 = .ok (.aload_n 0, 1) := by decide +kernel
theorem dX10_glad_18 : decode cX10_glad 18 = .ok (.bipush (-2), 2) := by decide +kernel
theorem dX10_glad_20 : decode cX10_glad 20 = .ok (.invokevirtual 96, 3) := by decide +kernel
theorem dX10_glad_23 : decode cX10_glad 23 = .ok (.ireturn, 1) := by decide +kernel
theorem dX10_glad_24 : decode cX10_glad 24 = .ok (.aload_n 0, 1) := by decide +kernel
theorem dX10_glad_25 : decode cX10_glad 25 = .ok (.iload_n 1, 1) := by decide +kernel
theorem dX10_glad_26 : decode cX10_glad 26 = .ok (.invokevirtual 240, 3) := by decide +kernel
theorem dX10_glad_29 : decode cX10_glad 29 = .ok (.istore_n 3, 1) := by decide +kernel
theorem dX10_glad_30 : decode cX10_glad 30 = .ok (.iload_n 2, 1) := by decide +kernel
theorem dX10_glad_31 : decode cX10_glad 31 = .ok (.ifCond .ne 5, 3) := by decide +kernel
theorem dX10_glad_34 : decode cX10_glad 34 = .ok (.iload_n 3, 1) := by decide +kernel
theorem dX10_glad_35 : decode cX10_glad 35 = .ok (.ireturn, 1) := by decide +kernel
theorem dX10_glad_36 : decode cX10_glad 36 = .ok (.iconst 0, 1) := by decide +kernel
theorem dX10_glad_37 : decode cX10_glad 37 = .ok (.istore 4, 2) := by decide +kernel
theorem dX10_glad_39 : decode cX10_glad 39 = .ok (.iconst 0, 1) := by decide +kernel
theorem dX10_glad_40 : decode cX10_glad 40 = .ok (.istore 5, 2) := by decide +kernel
theorem dX10_glad_42 : decode cX10_glad 42 = .ok (.iload 5, 2) := by decide +kernel
theorem dX10_glad_44 : decode cX10_glad 44 = .ok (.aload_n 0, 1) := by decide +kernel
theorem dX10_glad_45 : decode cX10_glad 45 = .ok (.getfield 89, 3) := by decide +kernel
theorem dX10_glad_48 : decode cX10_glad 48 = .ok (.if_icmp .ge 31, 3) := by decide +kernel
theorem dX10_glad_51 : decode cX10_glad 51 = .ok (.iload_n 1, 1) := by decide +kernel
theorem dX10_glad_52 : decode cX10_glad 52 = .ok (.iload 5, 2) := by decide +kernel
theorem dX10_glad_54 : decode cX10_glad 54 = .ok (.invokestatic 194, 3) := by decide +kernel
theorem dX10_glad_57 : decode cX10_glad 57 = .ok (.ifCond .eq 16, 3) := by decide +kernel
theorem dX10_glad_60 : decode cX10_glad 60 = .ok (.aload_n 0, 1) := by decide +kernel
theorem dX10_glad_61 : decode cX10_glad 61 = .ok (.getfield 62, 3) := by decide +kernel
theorem dX10_glad_64 : decode cX10_glad 64 = .ok (.iload 5, 2) := by decide +kernel
theorem dX10_glad_66 : decode cX10_glad 66 = .ok (.iaload, 1) := by decide +kernel
theorem dX10_glad_67 : decode cX10_glad 67 = .ok (.ifCond .ne 6, 3) := by decide +kernel
theorem dX10_glad_70 : decode cX10_glad 70 = .ok (.iinc 4 1, 3) := by decide +kernel
theorem dX10_glad_73 : decode cX10_glad 73 = .ok (.iinc 5 1, 3) := by decide +kernel
theorem dX10_glad_76 : decode cX10_glad 76 = .ok (.goto (-34), 3) := by decide +kernel
theorem dX10_glad_79 : decode cX10_glad 79 = .ok (.iload 4, 2) := by decide +kernel
theorem dX10_glad_81 : decode cX10_glad 81 = .ok (.ireturn, 1) := by decide +kernel
theorem dX10_order_0 : decode cX10_order 0 = .ok (.aload_n 0, 1) := by decide +kernel
theorem dX10_order_1 : decode cX10_order 1 = .ok (.iload_n 1, 1) := by decide +kernel
theorem dX10_order_2 : decode cX10_order 2 = .ok (.invokevirtual 234, 3) := by decide +kernel
theorem dX10_order_5 : decode cX10_order 5 = .ok (.ifCond .eq 17, 3) := by decide +kernel
theorem dX10_order_8 : decode cX10_order 8 = .ok (.iload_n 2, 1) := by decide +kernel
theorem dX10_order_9 : decode cX10_order 9 = .ok (.iconst 0, 1) := by decide +kernel
theorem dX10_order_10 : decode cX10_order 10 = .ok (.iload_n 1, 1) := by decide +kernel
theorem dX10_order_11 : decode cX10_order 11 = .ok (.invokestatic 243, 3) := by decide +kernel
theorem dX10_order_14 : decode cX10_order 14 = .ok (.iconst 1, 1) := by decide +kernel
theorem dX10_order_15 : decode cX10_order 15 = .ok (.isub, 1) := by decide +kernel
theorem dX10_order_16 : decode cX10_order 16 = .ok (.invokestatic 85, 3) := by decide +kernel
theorem dX10_order_19 : decode cX10_order 19 = .ok (.ifCond .ne 10, 3) := by decide +kernel
theorem dX10_order_22 : decode cX10_order 22 = .ok (.aload_n 0, 1) := by decide +kernel
theorem dX10_order_23 : decode cX10_order 23 = .ok (.bipush (-2), 2) := by decide +kernel
theorem dX10_order_25 : decode cX10_order 25 = .ok (.invokevirtual 96, 3) := by decide +kernel
theorem dX10_order_28 : decode cX10_order 28 = .ok (.ireturn, 1) := by decide +kernel
theorem dX10_order_29 : decode cX10_order 29 = .ok (.aload_n 0, 1) := by decide +kernel
theorem dX10_order_30 : decode cX10_order 30 = .ok (.iload_n 1, 1) := by decide +kernel
theorem dX10_order_31 : decode cX10_order 31 = .ok (.invokevirtual 222, 3) := by decide +kernel
theorem dX10_order_34 : decode cX10_order 34 = .ok (.aload_n 0, 1) := by decide +kernel
theorem dX10_order_35 : decode cX10_order 35 = .ok (.getfield 59, 3) := by decide +kernel
theorem dX10_order_38 : decode cX10_order 38 = .ok (.iload_n 2, 1) := by decide +kernel
theorem dX10_order_39 : decode cX10_order 39 = .ok (.iaload, 1) := by decide +kernel
theorem dX10_order_40 : decode cX10_order 40 = .ok (.ireturn, 1) := by decide +kernel
theorem dX10_away_0 : decode cX10_away 0 = .ok (.aload_n 0, 1) := by decide +kernel
theorem dX10_away_1 : decode cX10_away 1 = .ok (.iload_n 1, 1) := by decide +kernel
theorem dX10_away_2 : decode cX10_away 2 = .ok (.invokevirtual 110, 3) := by decide +kernel
theorem dX10_away_5 : decode cX10_away 5 = .ok (.ifCond .eq 12, 3) := by decide +kernel
theorem dX10_away_8 : decode cX10_away 8 = .ok (.iload_n 2, 1) := by decide +kernel
theorem dX10_away_9 : decode cX10_away 9 = .ok (.iconst 0, 1) := by decide +kernel
theorem dX10_away_10 : decode cX10_away 10 = .ok (.iconst 1, 1) := by decide +kernel
theorem dX10_away_11 : decode cX10_away 11 = .ok (.invokestatic 85, 3) := by decide +kernel
theorem dX10_away_14 : decode cX10_away 14 = .ok (.ifCond .ne 10, 3) := by decide +kernel
theorem dX10_away_17 : decode cX10_away 17 = .ok (.aload_n 0, 1) := by decide +kernel
theorem dX10_away_18 : decode cX10_away 18 = .ok (.bipush (-2), 2) := by decide +kernel
theorem dX10_away_20 : decode cX10_away 20 = .ok (.invokevirtual 96, 3) := by decide +kernel
theorem dX10_away_23 : decode cX10_away 23 = .ok (.ireturn, 1) := by decide +kernel
theorem dX10_away_24 : decode cX10_away 24 = .ok (.iconst 1, 1) := by decide +kernel
theorem dX10_away_25 : decode cX10_away 25 = .ok (.aload_n 0, 1) := by decide +kernel
theorem dX10_away_26 : decode cX10_away 26 = .ok (.getfield 89, 3) := by decide +kernel
theorem dX10_away_29 : decode cX10_away 29 = .ok (.ishl, 1) := by decide +kernel
theorem dX10_away_30 : decode cX10_away 30 = .ok (.iconst 1, 1) := by decide +kernel
theorem dX10_away_31 : decode cX10_away 31 = .ok (.isub, 1) := by decide +kernel
theorem dX10_away_32 : decode cX10_away 32 = .ok (.istore_n 3, 1) := by decide +kernel
theorem dX10_away_33 : decode cX10_away 33 = .ok (.iconst (-1), 1) := by decide +kernel
theorem dX10_away_34 : decode cX10_away 34 = .ok (.istore 4, 2) := by decide +kernel
theorem dX10_away_36 : decode cX10_away 36 = .ok (.iconst 0, 1) := by decide +kernel
theorem dX10_away_37 : decode cX10_away 37 = .ok (.istore 5, 2) := by decide +kernel
theorem dX10_away_39 : decode cX10_away 39 = .ok (.iload 5, 2) := by decide +kernel
theorem dX10_away_41 : decode cX10_away 41 = .ok (.iload_n 3, 1) := by decide +kernel
theorem dX10_away_42 : decode cX10_away 42 = .ok (.if_icmp .gt 62, 3) := by decide +kernel
theorem dX10_away_45 : decode cX10_away 45 = .ok (.iload 5, 2) := by decide +kernel
theorem dX10_away_47 : decode cX10_away 47 = .ok (.iload_n 1, 1) := by decide +kernel
theorem dX10_away_48 : decode cX10_away 48 = .ok (.invokestatic 194, 3) := by decide +kernel
theorem dX10_away_51 : decode cX10_away 51 = .ok (.ifCond .ne 47, 3) := by decide +kernel
theorem dX10_away_54 : decode cX10_away 54 = .ok (.iload 4, 2) := by decide +kernel
theorem dX10_away_56 : decode cX10_away 56 = .ok (.iconst (-1), 1) := by decide +kernel
theorem dX10_away_57 : decode cX10_away 57 = .ok (.if_icmp .eq 19, 3) := by decide +kernel
theorem dX10_away_60 : decode cX10_away 60 = .ok (.iload 5, 2) := by decide +kernel
theorem dX10_away_62 : decode cX10_away 62 = .ok (.invokestatic 243, 3) := by decide +kernel
theorem dX10_away_65 : decode cX10_away 65 = .ok (.iload 4, 2) := by decide +kernel
theorem dX10_away_67 : decode cX10_away 67 = .ok (.invokestatic 243, 3) := by decide +kernel
theorem dX10_away_70 : decode cX10_away 70 = .ok (.if_icmp .lt 6, 3) := by decide +kernel
theorem dX10_away_73 : decode cX10_away 73 = .ok (.goto 25, 3) := by decide +kernel
theorem dX10_away_76 : decode cX10_away 76 = .ok (.aload_n 0, 1) := by decide +kernel
theorem dX10_away_77 : decode cX10_away 77 = .ok (.iload_n 3, 1) := by decide +kernel
theorem dX10_away_78 : decode cX10_away 78 = .ok (.iload 5, 2) := by decide +kernel
theorem dX10_away_80 : decode cX10_away 80 = .ok (.iconst (-1), 1) := by decide +kernel
theorem dX10_away_81 : decode cX10_away 81 = .ok (.ixor, 1) := by decide +kernel
theorem dX10_away_82 : decode cX10_away 82 = .ok (.iand, 1) := by decide +kernel
theorem dX10_away_83 : decode cX10_away 83 = .ok (.invokevirtual 117, 3) := by decide +kernel
theorem dX10_away_86 : decode cX10_away 86 = .ok (.aload_n 0, 1) := by decide +kernel
theorem dX10_away_87 : decode cX10_away 87 = .ok (.iload_n 1, 1) := by decide +kernel
theorem dX10_away_88 : decode cX10_away 88 = .ok (.invokevirtual 231, 3) := by decide +kernel
theorem dX10_away_91 : decode cX10_away 91 = .ok (.ifCond .eq 7, 3) := by decide +kernel
theorem dX10_away_94 : decode cX10_away 94 = .ok (.iload 5, 2) := by decide +kernel
theorem dX10_away_96 : decode cX10_away 96 = .ok (.istore 4, 2) := by decide +kernel
theorem dX10_away_98 : decode cX10_away 98 = .ok (.iinc 5 1, 3) := by decide +kernel
theorem dX10_away_101 : decode cX10_away 101 = .ok (.goto (-62), 3) := by decide +kernel
theorem dX10_away_104 : decode cX10_away 104 = .ok (.iload 4, 2) := by decide +kernel
theorem dX10_away_106 : decode cX10_away 106 = .ok (.iconst (-1), 1) := by decide +kernel
theorem dX10_away_107 : decode cX10_away 107 = .ok (.if_icmp .eq 8, 3) := by decide +kernel
theorem dX10_away_110 : decode cX10_away 110 = .ok (.iload_n 2, 1) := by decide +kernel
theorem dX10_away_111 : decode cX10_away 111 = .ok (.iconst 1, 1) := by decide +kernel
theorem dX10_away_112 : decode cX10_away 112 = .ok (.if_icmp .ne 8, 3) := by decide +kernel
theorem dX10_away_115 : decode cX10_away 115 = .ok (.iload 4, 2) := by decide +kernel
theorem dX10_away_117 : decode cX10_away 117 = .ok (.goto 8, 3) := by decide +kernel
theorem dX10_away_120 : decode cX10_away 120 = .ok (.iload 4, 2) := by decide +kernel
theorem dX10_away_122 : decode cX10_away 122 = .ok (.invokestatic 243, 3) := by decide +kernel
theorem dX10_away_125 : decode cX10_away 125 = .ok (.ireturn, 1) := by decide +kernel
theorem dX10_crowd_0 : decode cX10_crowd 0 = .ok (.iload_n 1, 1) := by decide +kernel
theorem dX10_crowd_1 : decode cX10_crowd 1 = .ok (.iconst 0, 1) := by decide +kernel
theorem dX10_crowd_2 : decode cX10_crowd 2 = .ok (.aload_n 0, 1) := by decide +kernel
theorem dX10_crowd_3 : decode cX10_crowd 3 = .ok (.getfield 89, 3) := by decide +kernel
theorem dX10_crowd_6 : decode cX10_crowd 6 = .ok (.invokestatic 85, 3) := by decide +kernel
theorem dX10_crowd_9 : decode cX10_crowd 9 = .ok (.ifCond .eq 12, 3) := by decide +kernel
theorem dX10_crowd_12 : decode cX10_crowd 12 = .ok (.iload_n 2, 1) := by decide +kernel
theorem dX10_crowd_13 : decode cX10_crowd 13 = .ok (.iconst 0, 1) := by decide +kernel
theorem dX10_crowd_14 : decode cX10_crowd 14 = .ok (.iconst 1, 1) := by decide +kernel
theorem dX10_crowd_15 : decode cX10_crowd 15 = .ok (.invokestatic 85, 3) := by decide +kernel
theorem dX10_crowd_18 : decode cX10_crowd 18 = .ok (.ifCond .ne 10, 3) := by decide +kernel
theorem dX10_crowd_21 : decode cX10_crowd 21 = .ok (.aload_n 0, 1) := by decide +kernel
theorem dX10_crowd_22 : decode cX10_crowd 22 = .ok (.bipush (-2), 2) := by decide +kernel
theorem dX10_crowd_24 : decode cX10_crowd 24 = .ok (.invokevirtual 96, 3) := by decide +kernel
theorem dX10_crowd_27 : decode cX10_crowd 27 = .ok (.ireturn, 1) := by decide +kernel
theorem dX10_crowd_28 : decode cX10_crowd 28 = .ok (.iconst (-1), 1) := by decide +kernel
theorem dX10_crowd_29 : decode cX10_crowd 29 = .ok (.istore_n 3, 1) := by decide +kernel
theorem dX10_crowd_30 : decode cX10_crowd 30 = .ok (.iconst (-1), 1) := by decide +kernel
theorem dX10_crowd_31 : decode cX10_crowd 31 = .ok (.istore 4, 2) := by decide +kernel
theorem dX10_crowd_33 : decode cX10_crowd 33 = .ok (.iconst 0, 1) := by decide +kernel
theorem dX10_crowd_34 : decode cX10_crowd 34 = .ok (.istore 5, 2) := by decide +kernel
theorem dX10_crowd_36 : decode cX10_crowd 36 = .ok (.iload 5, 2) := by decide +kernel
theorem dX10_crowd_38 : decode cX10_crowd 38 = .ok (.iconst 1, 1) := by decide +kernel
theorem dX10_crowd_39 : decode cX10_crowd 39 = .ok (.aload_n 0, 1) := by decide +kernel
theorem dX10_crowd_40 : decode cX10_crowd 40 = .ok (.getfield 89, 3) := by decide +kernel
theorem dX10_crowd_43 : decode cX10_crowd 43 = .ok (.ishl, 1) := by decide +kernel
theorem dX10_crowd_44 : decode cX10_crowd 44 = .ok (.if_icmp .ge 46, 3) := by decide +kernel
theorem dX10_crowd_47 : decode cX10_crowd 47 = .ok (.iload 5, 2) := by decide +kernel
theorem dX10_crowd_49 : decode cX10_crowd 49 = .ok (.invokestatic 243, 3) := by decide +kernel
theorem dX10_crowd_52 : decode cX10_crowd 52 = .ok (.iload_n 1, 1) := by decide +kernel
theorem dX10_crowd_53 : decode cX10_crowd 53 = .ok (.if_icmp .eq 6, 3) := by decide +kernel
theorem dX10_crowd_56 : decode cX10_crowd 56 = .ok (.goto 28, 3) := by decide +kernel
theorem dX10_crowd_59 : decode cX10_crowd 59 = .ok (.aload_n 0, 1) := by decide +kernel
theorem dX10_crowd_60 : decode cX10_crowd 60 = .ok (.iload 5, 2) := by decide +kernel
theorem dX10_crowd_62 : decode cX10_crowd 62 = .ok (.invokevirtual 240, 3) := by decide +kernel
theorem dX10_crowd_65 : decode cX10_crowd 65 = .ok (.istore 6, 2) := by decide +kernel
theorem dX10_crowd_67 : decode cX10_crowd 67 = .ok (.iload 6, 2) := by decide +kernel
theorem dX10_crowd_69 : decode cX10_crowd 69 = .ok (.iload 4, 2) := by decide +kernel
theorem dX10_crowd_71 : decode cX10_crowd 71 = .ok (.if_icmp .gt 6, 3) := by decide +kernel
theorem dX10_crowd_74 : decode cX10_crowd 74 = .ok (.goto 10, 3) := by decide +kernel
theorem dX10_crowd_77 : decode cX10_crowd 77 = .ok (.iload 6, 2) := by decide +kernel
theorem dX10_crowd_79 : decode cX10_crowd 79 = .ok (.istore 4, 2) := by decide +kernel
theorem dX10_crowd_81 : decode cX10_crowd 81 = .ok (.iload 5, 2) := by decide +kernel
theorem dX10_crowd_83 : decode cX10_crowd 83 = .ok (.istore_n 3, 1) := by decide +kernel
theorem dX10_crowd_84 : decode cX10_crowd 84 = .ok (.iinc 5 1, 3) := by decide +kernel
theorem dX10_crowd_87 : decode cX10_crowd 87 = .ok (.goto (-51), 3) := by decide +kernel
theorem dX10_crowd_90 : decode cX10_crowd 90 = .ok (.iload_n 2, 1) := by decide +kernel
theorem dX10_crowd_91 : decode cX10_crowd 91 = .ok (.ifCond .ne 8, 3) := by decide +kernel
theorem dX10_crowd_94 : decode cX10_crowd 94 = .ok (.iload 4, 2) := by decide +kernel
theorem dX10_crowd_96 : decode cX10_crowd 96 = .ok (.goto 4, 3) := by decide +kernel
theorem dX10_crowd_99 : decode cX10_crowd 99 = .ok (.iload_n 3, 1) := by decide +kernel
theorem dX10_crowd_100 : decode cX10_crowd 100 = .ok (.ireturn, 1) := by decide +kernel
theorem dX10_putsOut_0 : decode cX10_putsOut 0 = .ok (.iload_n 2, 1) := by decide +kernel
theorem dX10_putsOut_1 : decode cX10_putsOut 1 = .ok (.iload_n 3, 1) := by decide +kernel
theorem dX10_putsOut_2 : decode cX10_putsOut 2 = .ok (.if_icmp .ne 21, 3) := by decide +kernel
theorem dX10_putsOut_5 : decode cX10_putsOut 5 = .ok (.aload_n 0, 1) := by decide +kernel
theorem dX10_putsOut_6 : decode cX10_putsOut 6 = .ok (.iload_n 1, 1) := by decide +kernel
theorem dX10_putsOut_7 : decode cX10_putsOut 7 = .ok (.invokevirtual 240, 3) := by decide +kernel
theorem dX10_putsOut_10 : decode cX10_putsOut 10 = .ok (.iload_n 1, 1) := by decide +kernel
theorem dX10_putsOut_11 : decode cX10_putsOut 11 = .ok (.invokestatic 243, 3) := by decide +kernel
theorem dX10_putsOut_14 : decode cX10_putsOut 14 = .ok (.if_icmp .ne 7, 3) := by decide +kernel
theorem dX10_putsOut_17 : decode cX10_putsOut 17 = .ok (.iconst 1, 1) := by decide +kernel
theorem dX10_putsOut_18 : decode cX10_putsOut 18 = .ok (.goto 4, 3) := by decide +kernel
theorem dX10_putsOut_21 : decode cX10_putsOut 21 = .ok (.iconst 0, 1) := by decide +kernel
theorem dX10_putsOut_22 : decode cX10_putsOut 22 = .ok (.ireturn, 1) := by decide +kernel
theorem dX10_putsOut_23 : decode cX10_putsOut 23 = .ok (.iconst 0, 1) := by decide +kernel
theorem dX10_putsOut_24 : decode cX10_putsOut 24 = .ok (.istore 5, 2) := by decide +kernel
theorem dX10_putsOut_26 : decode cX10_putsOut 26 = .ok (.iload 5, 2) := by decide +kernel
theorem dX10_putsOut_28 : decode cX10_putsOut 28 = .ok (.bipush 12, 2) := by decide +kernel
theorem dX10_putsOut_30 : decode cX10_putsOut 30 = .ok (.if_icmp .ge 20, 3) := by decide +kernel
theorem dX10_putsOut_33 : decode cX10_putsOut 33 = .ok (.aload_n 0, 1) := by decide +kernel
theorem dX10_putsOut_34 : decode cX10_putsOut 34 = .ok (.getfield 9, 3) := by decide +kernel
theorem dX10_putsOut_37 : decode cX10_putsOut 37 = .ok (.iload 5, 2) := by decide +kernel
theorem dX10_putsOut_39 : decode cX10_putsOut 39 = .ok (.iaload, 1) := by decide +kernel
theorem dX10_putsOut_40 : decode cX10_putsOut 40 = .ok (.iconst (-1), 1) := by decide +kernel
theorem dX10_putsOut_41 : decode cX10_putsOut 41 = .ok (.if_icmp .eq 9, 3) := by decide +kernel
theorem dX10_putsOut_44 : decode cX10_putsOut 44 = .ok (.iinc 5 1, 3) := by decide +kernel
theorem dX10_putsOut_47 : decode cX10_putsOut 47 = .ok (.goto (-21), 3) := by decide +kernel
theorem dX10_putsOut_50 : decode cX10_putsOut 50 = .ok (.iload 5, 2) := by decide +kernel
theorem dX10_putsOut_52 : decode cX10_putsOut 52 = .ok (.bipush 12, 2) := by decide +kernel
theorem dX10_putsOut_54 : decode cX10_putsOut 54 = .ok (.if_icmp .ne 5, 3) := by decide +kernel
theorem dX10_putsOut_57 : decode cX10_putsOut 57 = .ok (.iconst 0, 1) := by decide +kernel
theorem dX10_putsOut_58 : decode cX10_putsOut 58 = .ok (.ireturn, 1) := by decide +kernel
theorem dX10_putsOut_59 : decode cX10_putsOut 59 = .ok (.iconst 0, 1) := by decide +kernel
theorem dX10_putsOut_60 : decode cX10_putsOut 60 = .ok (.istore 6, 2) := by decide +kernel
theorem dX10_putsOut_62 : decode cX10_putsOut 62 = .ok (.iconst 0, 1) := by decide +kernel
theorem dX10_putsOut_63 : decode cX10_putsOut 63 = .ok (.istore 7, 2) := by decide +kernel
theorem dX10_putsOut_65 : decode cX10_putsOut 65 = .ok (.iload 7, 2) := by decide +kernel
theorem dX10_putsOut_67 : decode cX10_putsOut 67 = .ok (.bipush 8, 2) := by decide +kernel
theorem dX10_putsOut_69 : decode cX10_putsOut 69 = .ok (.if_icmp .ge 57, 3) := by decide +kernel
theorem dX10_putsOut_72 : decode cX10_putsOut 72 = .ok (.iload 6, 2) := by decide +kernel
theorem dX10_putsOut_74 : decode cX10_putsOut 74 = .ok (.ifCond .ne 52, 3) := by decide +kernel
theorem dX10_putsOut_77 : decode cX10_putsOut 77 = .ok (.iload 4, 2) := by decide +kernel
theorem dX10_putsOut_79 : decode cX10_putsOut 79 = .ok (.iload 7, 2) := by decide +kernel
theorem dX10_putsOut_81 : decode cX10_putsOut 81 = .ok (.invokestatic 194, 3) := by decide +kernel
theorem dX10_putsOut_84 : decode cX10_putsOut 84 = .ok (.ifCond .ne 6, 3) := by decide +kernel
theorem dX10_putsOut_87 : decode cX10_putsOut 87 = .ok (.goto 33, 3) := by decide +kernel
theorem dX10_putsOut_90 : decode cX10_putsOut 90 = .ok (.aload_n 0, 1) := by decide +kernel
theorem dX10_putsOut_91 : decode cX10_putsOut 91 = .ok (.getfield 78, 3) := by decide +kernel
theorem dX10_putsOut_94 : decode cX10_putsOut 94 = .ok (.iload_n 2, 1) := by decide +kernel
theorem dX10_putsOut_95 : decode cX10_putsOut 95 = .ok (.iload 7, 2) := by decide +kernel
theorem dX10_putsOut_97 : decode cX10_putsOut 97 = .ok (.iastore, 1) := by decide +kernel
theorem dX10_putsOut_98 : decode cX10_putsOut 98 = .ok (.aload_n 0, 1) := by decide +kernel
theorem dX10_putsOut_99 : decode cX10_putsOut 99 = .ok (.getfield 9, 3) := by decide +kernel
theorem dX10_putsOut_102 : decode cX10_putsOut 102 = .ok (.iload 5, 2) := by decide +kernel
theorem dX10_putsOut_104 : decode cX10_putsOut 104 = .ok (.iload 7, 2) := by decide +kernel
theorem dX10_putsOut_106 : decode cX10_putsOut 106 = .ok (.iastore, 1) := by decide +kernel
theorem dX10_putsOut_107 : decode cX10_putsOut 107 = .ok (.aload_n 0, 1) := by decide +kernel
theorem dX10_putsOut_108 : decode cX10_putsOut 108 = .ok (.iload_n 1, 1) := by decide +kernel
theorem dX10_putsOut_109 : decode cX10_putsOut 109 = .ok (.iload_n 2, 1) := by decide +kernel
theorem dX10_putsOut_110 : decode cX10_putsOut 110 = .ok (.iconst 1, 1) := by decide +kernel
theorem dX10_putsOut_111 : decode cX10_putsOut 111 = .ok (.iadd, 1) := by decide +kernel
theorem dX10_putsOut_112 : decode cX10_putsOut 112 = .ok (.iload_n 3, 1) := by decide +kernel
theorem dX10_putsOut_113 : decode cX10_putsOut 113 = .ok (.iload 4, 2) := by decide +kernel
theorem dX10_putsOut_115 : decode cX10_putsOut 115 = .ok (.invokevirtual 248, 3) := by decide +kernel
theorem dX10_putsOut_118 : decode cX10_putsOut 118 = .ok (.istore 6, 2) := by decide +kernel
theorem dX10_putsOut_120 : decode cX10_putsOut 120 = .ok (.iinc 7 1, 3) := by decide +kernel
theorem dX10_putsOut_123 : decode cX10_putsOut 123 = .ok (.goto (-58), 3) := by decide +kernel
theorem dX10_putsOut_126 : decode cX10_putsOut 126 = .ok (.aload_n 0, 1) := by decide +kernel
theorem dX10_putsOut_127 : decode cX10_putsOut 127 = .ok (.getfield 9, 3) := by decide +kernel
theorem dX10_putsOut_130 : decode cX10_putsOut 130 = .ok (.iload 5, 2) := by decide +kernel
theorem dX10_putsOut_132 : decode cX10_putsOut 132 = .ok (.iconst (-1), 1) := by decide +kernel
theorem dX10_putsOut_133 : decode cX10_putsOut 133 = .ok (.iastore, 1) := by decide +kernel
theorem dX10_putsOut_134 : decode cX10_putsOut 134 = .ok (.iload 6, 2) := by decide +kernel
theorem dX10_putsOut_136 : decode cX10_putsOut 136 = .ok (.ireturn, 1) := by decide +kernel
theorem dX10_setOut_0 : decode cX10_setOut 0 = .ok (.aload_n 0, 1) := by decide +kernel
theorem dX10_setOut_1 : decode cX10_setOut 1 = .ok (.iload_n 1, 1) := by decide +kernel
theorem dX10_setOut_2 : decode cX10_setOut 2 = .ok (.invokevirtual 234, 3) := by decide +kernel
theorem dX10_setOut_5 : decode cX10_setOut 5 = .ok (.ifCond .eq 8, 3) := by decide +kernel
theorem dX10_setOut_8 : decode cX10_setOut 8 = .ok (.iload_n 2, 1) := by decide +kernel
theorem dX10_setOut_9 : decode cX10_setOut 9 = .ok (.iconst (-1), 1) := by decide +kernel
theorem dX10_setOut_10 : decode cX10_setOut 10 = .ok (.if_icmp .ge 10, 3) := by decide +kernel
theorem dX10_setOut_13 : decode cX10_setOut 13 = .ok (.aload_n 0, 1) := by decide +kernel
theorem dX10_setOut_14 : decode cX10_setOut 14 = .ok (.bipush (-2), 2) := by decide +kernel
theorem dX10_setOut_16 : decode cX10_setOut 16 = .ok (.invokevirtual 96, 3) := by decide +kernel
theorem dX10_setOut_19 : decode cX10_setOut 19 = .ok (.ireturn, 1) := by decide +kernel
theorem dX10_setOut_20 : decode cX10_setOut 20 = .ok (.iconst 0, 1) := by decide +kernel
theorem dX10_setOut_21 : decode cX10_setOut 21 = .ok (.istore_n 3, 1) := by decide +kernel
theorem dX10_setOut_22 : decode cX10_setOut 22 = .ok (.iconst 0, 1) := by decide +kernel
theorem dX10_setOut_23 : decode cX10_setOut 23 = .ok (.istore 4, 2) := by decide +kernel
theorem dX10_setOut_25 : decode cX10_setOut 25 = .ok (.iload 4, 2) := by decide +kernel
theorem dX10_setOut_27 : decode cX10_setOut 27 = .ok (.aload_n 0, 1) := by decide +kernel
theorem dX10_setOut_28 : decode cX10_setOut 28 = .ok (.getfield 89, 3) := by decide +kernel
theorem dX10_setOut_31 : decode cX10_setOut 31 = .ok (.if_icmp .ge 30, 3) := by decide +kernel
theorem dX10_setOut_34 : decode cX10_setOut 34 = .ok (.iload_n 1, 1) := by decide +kernel
theorem dX10_setOut_35 : decode cX10_setOut 35 = .ok (.iload 4, 2) := by decide +kernel
theorem dX10_setOut_37 : decode cX10_setOut 37 = .ok (.invokestatic 194, 3) := by decide +kernel
theorem dX10_setOut_40 : decode cX10_setOut 40 = .ok (.ifCond .eq 15, 3) := by decide +kernel
theorem dX10_setOut_43 : decode cX10_setOut 43 = .ok (.iload_n 3, 1) := by decide +kernel
theorem dX10_setOut_44 : decode cX10_setOut 44 = .ok (.iconst 1, 1) := by decide +kernel
theorem dX10_setOut_45 : decode cX10_setOut 45 = .ok (.aload_n 0, 1) := by decide +kernel
theorem dX10_setOut_46 : decode cX10_setOut 46 = .ok (.getfield 16, 3) := by decide +kernel
theorem dX10_setOut_49 : decode cX10_setOut 49 = .ok (.iload 4, 2) := by decide +kernel
theorem dX10_setOut_51 : decode cX10_setOut 51 = .ok (.iaload, 1) := by decide +kernel
theorem dX10_setOut_52 : decode cX10_setOut 52 = .ok (.ishl, 1) := by decide +kernel
theorem dX10_setOut_53 : decode cX10_setOut 53 = .ok (.ior, 1) := by decide +kernel
theorem dX10_setOut_54 : decode cX10_setOut 54 = .ok (.istore_n 3, 1) := by decide +kernel
theorem dX10_setOut_55 : decode cX10_setOut 55 = .ok (.iinc 4 1, 3) := by decide +kernel
theorem dX10_setOut_58 : decode cX10_setOut 58 = .ok (.goto (-33), 3) := by decide +kernel
theorem dX10_setOut_61 : decode cX10_setOut 61 = .ok (.iconst 0, 1) := by decide +kernel
theorem dX10_setOut_62 : decode cX10_setOut 62 = .ok (.istore 4, 2) := by decide +kernel
theorem dX10_setOut_64 : decode cX10_setOut 64 = .ok (.iload 4, 2) := by decide +kernel
theorem dX10_setOut_66 : decode cX10_setOut 66 = .ok (.iconst 4, 1) := by decide +kernel
theorem dX10_setOut_67 : decode cX10_setOut 67 = .ok (.if_icmp .ge 21, 3) := by decide +kernel
theorem dX10_setOut_70 : decode cX10_setOut 70 = .ok (.aload_n 0, 1) := by decide +kernel
theorem dX10_setOut_71 : decode cX10_setOut 71 = .ok (.iload_n 1, 1) := by decide +kernel
theorem dX10_setOut_72 : decode cX10_setOut 72 = .ok (.iconst 0, 1) := by decide +kernel
theorem dX10_setOut_73 : decode cX10_setOut 73 = .ok (.iload 4, 2) := by decide +kernel
theorem dX10_setOut_75 : decode cX10_setOut 75 = .ok (.iload_n 3, 1) := by decide +kernel
theorem dX10_setOut_76 : decode cX10_setOut 76 = .ok (.invokevirtual 248, 3) := by decide +kernel
theorem dX10_setOut_79 : decode cX10_setOut 79 = .ok (.ifCond .ne 9, 3) := by decide +kernel
theorem dX10_setOut_82 : decode cX10_setOut 82 = .ok (.iinc 4 1, 3) := by decide +kernel
theorem dX10_setOut_85 : decode cX10_setOut 85 = .ok (.goto (-21), 3) := by decide +kernel
theorem dX10_setOut_88 : decode cX10_setOut 88 = .ok (.iload_n 2, 1) := by decide +kernel
theorem dX10_setOut_89 : decode cX10_setOut 89 = .ok (.iconst (-1), 1) := by decide +kernel
theorem dX10_setOut_90 : decode cX10_setOut 90 = .ok (.if_icmp .ne 16, 3) := by decide +kernel
theorem dX10_setOut_93 : decode cX10_setOut 93 = .ok (.iload 4, 2) := by decide +kernel
theorem dX10_setOut_95 : decode cX10_setOut 95 = .ok (.iconst 4, 1) := by decide +kernel
theorem dX10_setOut_96 : decode cX10_setOut 96 = .ok (.if_icmp .ne 7, 3) := by decide +kernel
theorem dX10_setOut_99 : decode cX10_setOut 99 = .ok (.iconst (-1), 1) := by decide +kernel
theorem dX10_setOut_100 : decode cX10_setOut 100 = .ok (.goto 5, 3) := by decide +kernel
theorem dX10_setOut_103 : decode cX10_setOut 103 = .ok (.iload 4, 2) := by decide +kernel
theorem dX10_setOut_105 : decode cX10_setOut 105 = .ok (.ireturn, 1) := by decide +kernel
theorem dX10_setOut_106 : decode cX10_setOut 106 = .ok (.iload 4, 2) := by decide +kernel
theorem dX10_setOut_108 : decode cX10_setOut 108 = .ok (.iconst 4, 1) := by decide +kernel
theorem dX10_setOut_109 : decode cX10_setOut 109 = .ok (.if_icmp .eq 9, 3) := by decide +kernel
theorem dX10_setOut_112 : decode cX10_setOut 112 = .ok (.iload_n 2, 1) := by decide +kernel
theorem dX10_setOut_113 : decode cX10_setOut 113 = .ok (.iload 4, 2) := by decide +kernel
theorem dX10_setOut_115 : decode cX10_setOut 115 = .ok (.if_icmp .lt 12, 3) := by decide +kernel
theorem dX10_setOut_118 : decode cX10_setOut 118 = .ok (.aload_n 0, 1) := by decide +kernel
theorem dX10_setOut_119 : decode cX10_setOut 119 = .ok (.bipush (-5), 2) := by decide +kernel
theorem dX10_setOut_121 : decode cX10_setOut 121 = .ok (.invokevirtual 96, 3) := by decide +kernel
theorem dX10_setOut_124 : decode cX10_setOut 124 = .ok (.goto 9, 3) := by decide +kernel
theorem dX10_setOut_127 : decode cX10_setOut 127 = .ok (.aload_n 0, 1) := by decide +kernel
theorem dX10_setOut_128 : decode cX10_setOut 128 = .ok (.getfield 78, 3) := by decide +kernel
theorem dX10_setOut_131 : decode cX10_setOut 131 = .ok (.iload_n 2, 1) := by decide +kernel
theorem dX10_setOut_132 : decode cX10_setOut 132 = .ok (.iaload, 1) := by decide +kernel
theorem dX10_setOut_133 : decode cX10_setOut 133 = .ok (.ireturn, 1) := by decide +kernel
theorem dX10_who_0 : decode cX10_who 0 = .ok (.iload_n 1, 1) := by decide +kernel
theorem dX10_who_1 : decode cX10_who 1 = .ok (.invokestatic 252, 3) := by decide +kernel
theorem dX10_who_4 : decode cX10_who 4 = .ok (.ifCond .eq 12, 3) := by decide +kernel
theorem dX10_who_7 : decode cX10_who 7 = .ok (.iload_n 2, 1) := by decide +kernel
theorem dX10_who_8 : decode cX10_who 8 = .ok (.iconst 0, 1) := by decide +kernel
theorem dX10_who_9 : decode cX10_who 9 = .ok (.iconst 3, 1) := by decide +kernel
theorem dX10_who_10 : decode cX10_who 10 = .ok (.invokestatic 85, 3) := by decide +kernel
theorem dX10_who_13 : decode cX10_who 13 = .ok (.ifCond .ne 10, 3) := by decide +kernel
theorem dX10_who_16 : decode cX10_who 16 = .ok (.aload_n 0, 1) := by decide +kernel
theorem dX10_who_17 : decode cX10_who 17 = .ok (.bipush (-2), 2) := by decide +kernel
theorem dX10_who_19 : decode cX10_who 19 = .ok (.invokevirtual 96, 3) := by decide +kernel
theorem dX10_who_22 : decode cX10_who 22 = .ok (.ireturn, 1) := by decide +kernel
theorem dX10_who_23 : decode cX10_who 23 = .ok (.iconst 0, 1) := by decide +kernel
theorem dX10_who_24 : decode cX10_who 24 = .ok (.istore_n 3, 1) := by decide +kernel
theorem dX10_who_25 : decode cX10_who 25 = .ok (.iconst (-1), 1) := by decide +kernel
theorem dX10_who_26 : decode cX10_who 26 = .ok (.istore 4, 2) := by decide +kernel
theorem dX10_who_28 : decode cX10_who 28 = .ok (.iconst (-1), 1) := by decide +kernel
theorem dX10_who_29 : decode cX10_who 29 = .ok (.istore 5, 2) := by decide +kernel
theorem dX10_who_31 : decode cX10_who 31 = .ok (.iconst 0, 1) := by decide +kernel
theorem dX10_who_32 : decode cX10_who 32 = .ok (.istore 6, 2) := by decide +kernel
theorem dX10_who_34 : decode cX10_who 34 = .ok (.iconst 1, 1) := by decide +kernel
theorem dX10_who_35 : decode cX10_who 35 = .ok (.aload_n 0, 1) := by decide +kernel
theorem dX10_who_36 : decode cX10_who 36 = .ok (.getfield 89, 3) := by decide +kernel
theorem dX10_who_39 : decode cX10_who 39 = .ok (.ishl, 1) := by decide +kernel
theorem dX10_who_40 : decode cX10_who 40 = .ok (.iconst 1, 1) := by decide +kernel
theorem dX10_who_41 : decode cX10_who 41 = .ok (.isub, 1) := by decide +kernel
theorem dX10_who_42 : decode cX10_who 42 = .ok (.istore 7, 2) := by decide +kernel
theorem dX10_who_44 : decode cX10_who 44 = .ok (.iload 7, 2) := by decide +kernel
theorem dX10_who_46 : decode cX10_who 46 = .ok (.ifCond .lt 58, 3) := by decide +kernel
theorem dX10_who_49 : decode cX10_who 49 = .ok (.aload_n 0, 1) := by decide +kernel
theorem dX10_who_50 : decode cX10_who 50 = .ok (.iload 7, 2) := by decide +kernel
theorem dX10_who_52 : decode cX10_who 52 = .ok (.invokevirtual 117, 3) := by decide +kernel
theorem dX10_who_55 : decode cX10_who 55 = .ok (.aload_n 0, 1) := by decide +kernel
theorem dX10_who_56 : decode cX10_who 56 = .ok (.invokevirtual 237, 3) := by decide +kernel
theorem dX10_who_59 : decode cX10_who 59 = .ok (.iload_n 1, 1) := by decide +kernel
theorem dX10_who_60 : decode cX10_who 60 = .ok (.if_icmp .eq 6, 3) := by decide +kernel
theorem dX10_who_63 : decode cX10_who 63 = .ok (.goto 35, 3) := by decide +kernel
theorem dX10_who_66 : decode cX10_who 66 = .ok (.iinc 3 1, 3) := by decide +kernel
theorem dX10_who_69 : decode cX10_who 69 = .ok (.iload 7, 2) := by decide +kernel
theorem dX10_who_71 : decode cX10_who 71 = .ok (.istore 4, 2) := by decide +kernel
theorem dX10_who_73 : decode cX10_who 73 = .ok (.iload 5, 2) := by decide +kernel
theorem dX10_who_75 : decode cX10_who 75 = .ok (.iconst (-1), 1) := by decide +kernel
theorem dX10_who_76 : decode cX10_who 76 = .ok (.if_icmp .ne 8, 3) := by decide +kernel
theorem dX10_who_79 : decode cX10_who 79 = .ok (.iload 7, 2) := by decide +kernel
theorem dX10_who_81 : decode cX10_who 81 = .ok (.goto 8, 3) := by decide +kernel
theorem dX10_who_84 : decode cX10_who 84 = .ok (.iload 5, 2) := by decide +kernel
theorem dX10_who_86 : decode cX10_who 86 = .ok (.iload 7, 2) := by decide +kernel
theorem dX10_who_88 : decode cX10_who 88 = .ok (.iand, 1) := by decide +kernel
theorem dX10_who_89 : decode cX10_who 89 = .ok (.istore 5, 2) := by decide +kernel
theorem dX10_who_91 : decode cX10_who 91 = .ok (.iload 6, 2) := by decide +kernel
theorem dX10_who_93 : decode cX10_who 93 = .ok (.iload 7, 2) := by decide +kernel
theorem dX10_who_95 : decode cX10_who 95 = .ok (.ior, 1) := by decide +kernel
theorem dX10_who_96 : decode cX10_who 96 = .ok (.istore 6, 2) := by decide +kernel
theorem dX10_who_98 : decode cX10_who 98 = .ok (.iinc 7 (-1), 3) := by decide +kernel
theorem dX10_who_101 : decode cX10_who 101 = .ok (.goto (-57), 3) := by decide +kernel
theorem dX10_who_104 : decode cX10_who 104 = .ok (.iload_n 2, 1) := by decide +kernel
theorem dX10_who_105 : decode cX10_who 105 = .ok (.ifCond .ne 7, 3) := by decide +kernel
theorem dX10_who_108 : decode cX10_who 108 = .ok (.iload_n 3, 1) := by decide +kernel
theorem dX10_who_109 : decode cX10_who 109 = .ok (.goto 25, 3) := by decide +kernel
theorem dX10_who_112 : decode cX10_who 112 = .ok (.iload_n 2, 1) := by decide +kernel
theorem dX10_who_113 : decode cX10_who 113 = .ok (.iconst 1, 1) := by decide +kernel
theorem dX10_who_114 : decode cX10_who 114 = .ok (.if_icmp .ne 8, 3) := by decide +kernel
theorem dX10_who_117 : decode cX10_who 117 = .ok (.iload 4, 2) := by decide +kernel
theorem dX10_who_119 : decode cX10_who 119 = .ok (.goto 15, 3) := by decide +kernel
theorem dX10_who_122 : decode cX10_who 122 = .ok (.iload_n 2, 1) := by decide +kernel
theorem dX10_who_123 : decode cX10_who 123 = .ok (.iconst 2, 1) := by decide +kernel
theorem dX10_who_124 : decode cX10_who 124 = .ok (.if_icmp .ne 8, 3) := by decide +kernel
theorem dX10_who_127 : decode cX10_who 127 = .ok (.iload 5, 2) := by decide +kernel
theorem dX10_who_129 : decode cX10_who 129 = .ok (.goto 5, 3) := by decide +kernel
theorem dX10_who_132 : decode cX10_who 132 = .ok (.iload 6, 2) := by decide +kernel
theorem dX10_who_134 : decode cX10_who 134 = .ok (.ireturn, 1) := by decide +kernel
theorem dX10_kinds_0 : decode cX10_kinds 0 = .ok (.aload_n 0, 1) := by decide +kernel
theorem dX10_kinds_1 : decode cX10_kinds 1 = .ok (.iload_n 1, 1) := by decide +kernel
theorem dX10_kinds_2 : decode cX10_kinds 2 = .ok (.invokevirtual 234, 3) := by decide +kernel
theorem dX10_kinds_5 : decode cX10_kinds 5 = .ok (.ifCond .eq 36, 3) := by decide +kernel
theorem dX10_kinds_8 : decode cX10_kinds 8 = .ok (.aload_n 0, 1) := by decide +kernel
theorem dX10_kinds_9 : decode cX10_kinds 9 = .ok (.iload_n 2, 1) := by decide +kernel
theorem dX10_kinds_10 : decode cX10_kinds 10 = .ok (.invokevirtual 110, 3) := by decide +kernel
theorem dX10_kinds_13 : decode cX10_kinds 13 = .ok (.ifCond .eq 28, 3) := by decide +kernel
theorem dX10_kinds_16 : decode cX10_kinds 16 = .ok (.iload_n 3, 1) := by decide +kernel
theorem dX10_kinds_17 : decode cX10_kinds 17 = .ok (.invokestatic 252, 3) := by decide +kernel
theorem dX10_kinds_20 : decode cX10_kinds 20 = .ok (.ifCond .eq 21, 3) := by decide +kernel
theorem dX10_kinds_23 : decode cX10_kinds 23 = .ok (.iload 4, 2) := by decide +kernel
theorem dX10_kinds_25 : decode cX10_kinds 25 = .ok (.iconst 0, 1) := by decide +kernel
theorem dX10_kinds_26 : decode cX10_kinds 26 = .ok (.iconst 1, 1) := by decide +kernel
theorem dX10_kinds_27 : decode cX10_kinds 27 = .ok (.invokestatic 85, 3) := by decide +kernel
theorem dX10_kinds_30 : decode cX10_kinds 30 = .ok (.ifCond .eq 11, 3) := by decide +kernel
theorem dX10_kinds_33 : decode cX10_kinds 33 = .ok (.iload_n 1, 1) := by decide +kernel
theorem dX10_kinds_34 : decode cX10_kinds 34 = .ok (.iload_n 2, 1) := by decide +kernel
theorem dX10_kinds_35 : decode cX10_kinds 35 = .ok (.invokestatic 194, 3) := by decide +kernel
theorem dX10_kinds_38 : decode cX10_kinds 38 = .ok (.ifCond .ne 10, 3) := by decide +kernel
theorem dX10_kinds_41 : decode cX10_kinds 41 = .ok (.aload_n 0, 1) := by decide +kernel
theorem dX10_kinds_42 : decode cX10_kinds 42 = .ok (.bipush (-2), 2) := by decide +kernel
theorem dX10_kinds_44 : decode cX10_kinds 44 = .ok (.invokevirtual 96, 3) := by decide +kernel
theorem dX10_kinds_47 : decode cX10_kinds 47 = .ok (.ireturn, 1) := by decide +kernel
theorem dX10_kinds_48 : decode cX10_kinds 48 = .ok (.aload_n 0, 1) := by decide +kernel
theorem dX10_kinds_49 : decode cX10_kinds 49 = .ok (.getfield 13, 3) := by decide +kernel
theorem dX10_kinds_52 : decode cX10_kinds 52 = .ok (.iload_n 2, 1) := by decide +kernel
theorem dX10_kinds_53 : decode cX10_kinds 53 = .ok (.iaload, 1) := by decide +kernel
theorem dX10_kinds_54 : decode cX10_kinds 54 = .ok (.istore 5, 2) := by decide +kernel
theorem dX10_kinds_56 : decode cX10_kinds 56 = .ok (.aload_n 0, 1) := by decide +kernel
theorem dX10_kinds_57 : decode cX10_kinds 57 = .ok (.getfield 16, 3) := by decide +kernel
theorem dX10_kinds_60 : decode cX10_kinds 60 = .ok (.iload_n 2, 1) := by decide +kernel
theorem dX10_kinds_61 : decode cX10_kinds 61 = .ok (.iaload, 1) := by decide +kernel
theorem dX10_kinds_62 : decode cX10_kinds 62 = .ok (.istore 6, 2) := by decide +kernel
theorem dX10_kinds_64 : decode cX10_kinds 64 = .ok (.iconst 0, 1) := by decide +kernel
theorem dX10_kinds_65 : decode cX10_kinds 65 = .ok (.istore 7, 2) := by decide +kernel
theorem dX10_kinds_67 : decode cX10_kinds 67 = .ok (.iconst 0, 1) := by decide +kernel
theorem dX10_kinds_68 : decode cX10_kinds 68 = .ok (.istore 8, 2) := by decide +kernel
theorem dX10_kinds_70 : decode cX10_kinds 70 = .ok (.iload 8, 2) := by decide +kernel
theorem dX10_kinds_72 : decode cX10_kinds 72 = .ok (.iload 4, 2) := by decide +kernel
theorem dX10_kinds_74 : decode cX10_kinds 74 = .ok (.ifCond .ne 8, 3) := by decide +kernel
theorem dX10_kinds_77 : decode cX10_kinds 77 = .ok (.bipush 6, 2) := by decide +kernel
theorem dX10_kinds_79 : decode cX10_kinds 79 = .ok (.goto 5, 3) := by decide +kernel
theorem dX10_kinds_82 : decode cX10_kinds 82 = .ok (.bipush 8, 2) := by decide +kernel
theorem dX10_kinds_84 : decode cX10_kinds 84 = .ok (.if_icmp .ge 57, 3) := by decide +kernel
theorem dX10_kinds_87 : decode cX10_kinds 87 = .ok (.iload 4, 2) := by decide +kernel
theorem dX10_kinds_89 : decode cX10_kinds 89 = .ok (.ifCond .ne 14, 3) := by decide +kernel
theorem dX10_kinds_92 : decode cX10_kinds 92 = .ok (.aload_n 0, 1) := by decide +kernel
theorem dX10_kinds_93 : decode cX10_kinds 93 = .ok (.getfield 13, 3) := by decide +kernel
theorem dX10_kinds_96 : decode cX10_kinds 96 = .ok (.iload_n 2, 1) := by decide +kernel
theorem dX10_kinds_97 : decode cX10_kinds 97 = .ok (.iload 8, 2) := by decide +kernel
theorem dX10_kinds_99 : decode cX10_kinds 99 = .ok (.iastore, 1) := by decide +kernel
theorem dX10_kinds_100 : decode cX10_kinds 100 = .ok (.goto 11, 3) := by decide +kernel
theorem dX10_kinds_103 : decode cX10_kinds 103 = .ok (.aload_n 0, 1) := by decide +kernel
theorem dX10_kinds_104 : decode cX10_kinds 104 = .ok (.getfield 16, 3) := by decide +kernel
theorem dX10_kinds_107 : decode cX10_kinds 107 = .ok (.iload_n 2, 1) := by decide +kernel
theorem dX10_kinds_108 : decode cX10_kinds 108 = .ok (.iload 8, 2) := by decide +kernel
theorem dX10_kinds_110 : decode cX10_kinds 110 = .ok (.iastore, 1) := by decide +kernel
theorem dX10_kinds_111 : decode cX10_kinds 111 = .ok (.aload_n 0, 1) := by decide +kernel
theorem dX10_kinds_112 : decode cX10_kinds 112 = .ok (.iload_n 1, 1) := by decide +kernel
theorem dX10_kinds_113 : decode cX10_kinds 113 = .ok (.invokevirtual 117, 3) := by decide +kernel
theorem dX10_kinds_116 : decode cX10_kinds 116 = .ok (.aload_n 0, 1) := by decide +kernel
theorem dX10_kinds_117 : decode cX10_kinds 117 = .ok (.getfield 62, 3) := by decide +kernel
theorem dX10_kinds_120 : decode cX10_kinds 120 = .ok (.iload_n 2, 1) := by decide +kernel
theorem dX10_kinds_121 : decode cX10_kinds 121 = .ok (.iaload, 1) := by decide +kernel
theorem dX10_kinds_122 : decode cX10_kinds 122 = .ok (.iload_n 3, 1) := by decide +kernel
theorem dX10_kinds_123 : decode cX10_kinds 123 = .ok (.if_icmp .ne 12, 3) := by decide +kernel
theorem dX10_kinds_126 : decode cX10_kinds 126 = .ok (.iload 7, 2) := by decide +kernel
theorem dX10_kinds_128 : decode cX10_kinds 128 = .ok (.iconst 1, 1) := by decide +kernel
theorem dX10_kinds_129 : decode cX10_kinds 129 = .ok (.iload 8, 2) := by decide +kernel
theorem dX10_kinds_131 : decode cX10_kinds 131 = .ok (.ishl, 1) := by decide +kernel
theorem dX10_kinds_132 : decode cX10_kinds 132 = .ok (.ior, 1) := by decide +kernel
theorem dX10_kinds_133 : decode cX10_kinds 133 = .ok (.istore 7, 2) := by decide +kernel
theorem dX10_kinds_135 : decode cX10_kinds 135 = .ok (.iinc 8 1, 3) := by decide +kernel
theorem dX10_kinds_138 : decode cX10_kinds 138 = .ok (.goto (-68), 3) := by decide +kernel
theorem dX10_kinds_141 : decode cX10_kinds 141 = .ok (.aload_n 0, 1) := by decide +kernel
theorem dX10_kinds_142 : decode cX10_kinds 142 = .ok (.getfield 13, 3) := by decide +kernel
theorem dX10_kinds_145 : decode cX10_kinds 145 = .ok (.iload_n 2, 1) := by decide +kernel
theorem dX10_kinds_146 : decode cX10_kinds 146 = .ok (.iload 5, 2) := by decide +kernel
theorem dX10_kinds_148 : decode cX10_kinds 148 = .ok (.iastore, 1) := by decide +kernel
theorem dX10_kinds_149 : decode cX10_kinds 149 = .ok (.aload_n 0, 1) := by decide +kernel
theorem dX10_kinds_150 : decode cX10_kinds 150 = .ok (.getfield 16, 3) := by decide +kernel
theorem dX10_kinds_153 : decode cX10_kinds 153 = .ok (.iload_n 2, 1) := by decide +kernel
theorem dX10_kinds_154 : decode cX10_kinds 154 = .ok (.iload 6, 2) := by decide +kernel
theorem dX10_kinds_156 : decode cX10_kinds 156 = .ok (.iastore, 1) := by decide +kernel
theorem dX10_kinds_157 : decode cX10_kinds 157 = .ok (.iload 7, 2) := by decide +kernel
theorem dX10_kinds_159 : decode cX10_kinds 159 = .ok (.ireturn, 1) := by decide +kernel
theorem dX10_waysOf_0 : decode cX10_waysOf 0 = .ok (.lconst 1, 1) := by decide +kernel
theorem dX10_waysOf_1 : decode cX10_waysOf 1 = .ok (.lstore_n 3, 1) := by decide +kernel
theorem dX10_waysOf_2 : decode cX10_waysOf 2 = .ok (.iconst 0, 1) := by decide +kernel
theorem dX10_waysOf_3 : decode cX10_waysOf 3 = .ok (.istore 5, 2) := by decide +kernel
theorem dX10_waysOf_5 : decode cX10_waysOf 5 = .ok (.iload 5, 2) := by decide +kernel
theorem dX10_waysOf_7 : decode cX10_waysOf 7 = .ok (.aload_n 0, 1) := by decide +kernel
theorem dX10_waysOf_8 : decode cX10_waysOf 8 = .ok (.getfield 89, 3) := by decide +kernel
theorem dX10_waysOf_11 : decode cX10_waysOf 11 = .ok (.if_icmp .ge 49, 3) := by decide +kernel
theorem dX10_waysOf_14 : decode cX10_waysOf 14 = .ok (.iload 5, 2) := by decide +kernel
theorem dX10_waysOf_16 : decode cX10_waysOf 16 = .ok (.iload_n 2, 1) := by decide +kernel
theorem dX10_waysOf_17 : decode cX10_waysOf 17 = .ok (.if_icmp .eq 37, 3) := by decide +kernel
theorem dX10_waysOf_20 : decode cX10_waysOf 20 = .ok (.lload_n 3, 1) := by decide +kernel
theorem dX10_waysOf_21 : decode cX10_waysOf 21 = .ok (.iload_n 1, 1) := by decide +kernel
theorem dX10_waysOf_22 : decode cX10_waysOf 22 = .ok (.iload 5, 2) := by decide +kernel
theorem dX10_waysOf_24 : decode cX10_waysOf 24 = .ok (.invokestatic 194, 3) := by decide +kernel
theorem dX10_waysOf_27 : decode cX10_waysOf 27 = .ok (.ifCond .eq 14, 3) := by decide +kernel
theorem dX10_waysOf_30 : decode cX10_waysOf 30 = .ok (.aload_n 0, 1) := by decide +kernel
theorem dX10_waysOf_31 : decode cX10_waysOf 31 = .ok (.getfield 25, 3) := by decide +kernel
theorem dX10_waysOf_34 : decode cX10_waysOf 34 = .ok (.iload 5, 2) := by decide +kernel
theorem dX10_waysOf_36 : decode cX10_waysOf 36 = .ok (.iaload, 1) := by decide +kernel
theorem dX10_waysOf_37 : decode cX10_waysOf 37 = .ok (.i2l, 1) := by decide +kernel
theorem dX10_waysOf_38 : decode cX10_waysOf 38 = .ok (.goto 14, 3) := by decide +kernel
theorem dX10_waysOf_41 : decode cX10_waysOf 41 = .ok (.bipush 12, 2) := by decide +kernel
theorem dX10_waysOf_43 : decode cX10_waysOf 43 = .ok (.aload_n 0, 1) := by decide +kernel
theorem dX10_waysOf_44 : decode cX10_waysOf 44 = .ok (.getfield 25, 3) := by decide +kernel
theorem dX10_waysOf_47 : decode cX10_waysOf 47 = .ok (.iload 5, 2) := by decide +kernel
theorem dX10_waysOf_49 : decode cX10_waysOf 49 = .ok (.iaload, 1) := by decide +kernel
theorem dX10_waysOf_50 : decode cX10_waysOf 50 = .ok (.isub, 1) := by decide +kernel
theorem dX10_waysOf_51 : decode cX10_waysOf 51 = .ok (.i2l, 1) := by decide +kernel
theorem dX10_waysOf_52 : decode cX10_waysOf 52 = .ok (.lmul, 1) := by decide +kernel
theorem dX10_waysOf_53 : decode cX10_waysOf 53 = .ok (.lstore_n 3, 1) := by decide +kernel
theorem dX10_waysOf_54 : decode cX10_waysOf 54 = .ok (.iinc 5 1, 3) := by decide +kernel
theorem dX10_waysOf_57 : decode cX10_waysOf 57 = .ok (.goto (-52), 3) := by decide +kernel
theorem dX10_waysOf_60 : decode cX10_waysOf 60 = .ok (.lload_n 3, 1) := by decide +kernel
theorem dX10_waysOf_61 : decode cX10_waysOf 61 = .ok (.lreturn, 1) := by decide +kernel
theorem dX10_allWays_0 : decode cX10_allWays 0 = .ok (.lconst 1, 1) := by decide +kernel
theorem dX10_allWays_1 : decode cX10_allWays 1 = .ok (.lstore_n 2, 1) := by decide +kernel
theorem dX10_allWays_2 : decode cX10_allWays 2 = .ok (.iconst 0, 1) := by decide +kernel
theorem dX10_allWays_3 : decode cX10_allWays 3 = .ok (.istore 4, 2) := by decide +kernel
theorem dX10_allWays_5 : decode cX10_allWays 5 = .ok (.iload 4, 2) := by decide +kernel
theorem dX10_allWays_7 : decode cX10_allWays 7 = .ok (.aload_n 0, 1) := by decide +kernel
theorem dX10_allWays_8 : decode cX10_allWays 8 = .ok (.getfield 89, 3) := by decide +kernel
theorem dX10_allWays_11 : decode cX10_allWays 11 = .ok (.if_icmp .ge 21, 3) := by decide +kernel
theorem dX10_allWays_14 : decode cX10_allWays 14 = .ok (.iload 4, 2) := by decide +kernel
theorem dX10_allWays_16 : decode cX10_allWays 16 = .ok (.iload_n 1, 1) := by decide +kernel
theorem dX10_allWays_17 : decode cX10_allWays 17 = .ok (.if_icmp .eq 9, 3) := by decide +kernel
theorem dX10_allWays_20 : decode cX10_allWays 20 = .ok (.lload_n 2, 1) := by decide +kernel
theorem dX10_allWays_21 : decode cX10_allWays 21 = .ok (.ldc2_w 255, 3) := by decide +kernel
theorem dX10_allWays_24 : decode cX10_allWays 24 = .ok (.lmul, 1) := by decide +kernel
theorem dX10_allWays_25 : decode cX10_allWays 25 = .ok (.lstore_n 2, 1) := by decide +kernel
theorem dX10_allWays_26 : decode cX10_allWays 26 = .ok (.iinc 4 1, 3) := by decide +kernel
theorem dX10_allWays_29 : decode cX10_allWays 29 = .ok (.goto (-24), 3) := by decide +kernel
theorem dX10_allWays_32 : decode cX10_allWays 32 = .ok (.lload_n 2, 1) := by decide +kernel
theorem dX10_allWays_33 : decode cX10_allWays 33 = .ok (.lreturn, 1) := by decide +kernel
theorem dX10_odds_0 : decode cX10_odds 0 = .ok (.iload_n 1, 1) := by decide +kernel
theorem dX10_odds_1 : decode cX10_odds 1 = .ok (.invokestatic 121, 3) := by decide +kernel
theorem dX10_odds_4 : decode cX10_odds 4 = .ok (.ifCond .ne 10, 3) := by decide +kernel
theorem dX10_odds_7 : decode cX10_odds 7 = .ok (.aload_n 0, 1) := by decide +kernel
theorem dX10_odds_8 : decode cX10_odds 8 = .ok (.bipush (-2), 2) := by decide +kernel
theorem dX10_odds_10 : decode cX10_odds 10 = .ok (.invokevirtual 96, 3) := by decide +kernel
theorem dX10_odds_13 : decode cX10_odds 13 = .ok (.ireturn, 1) := by decide +kernel
theorem dX10_odds_14 : decode cX10_odds 14 = .ok (.aload_n 0, 1) := by decide +kernel
theorem dX10_odds_15 : decode cX10_odds 15 = .ok (.getfield 9, 3) := by decide +kernel
theorem dX10_odds_18 : decode cX10_odds 18 = .ok (.iload_n 1, 1) := by decide +kernel
theorem dX10_odds_19 : decode cX10_odds 19 = .ok (.iaload, 1) := by decide +kernel
theorem dX10_odds_20 : decode cX10_odds 20 = .ok (.iconst (-1), 1) := by decide +kernel
theorem dX10_odds_21 : decode cX10_odds 21 = .ok (.if_icmp .ne 10, 3) := by decide +kernel
theorem dX10_odds_24 : decode cX10_odds 24 = .ok (.aload_n 0, 1) := by decide +kernel
theorem dX10_odds_25 : decode cX10_odds 25 = .ok (.bipush (-5), 2) := by decide +kernel
theorem dX10_odds_27 : decode cX10_odds 27 = .ok (.invokevirtual 96, 3) := by decide +kernel
theorem dX10_odds_30 : decode cX10_odds 30 = .ok (.ireturn, 1) := by decide +kernel
theorem dX10_odds_31 : decode cX10_odds 31 = .ok (.lconst 0, 1) := by decide +kernel
theorem dX10_odds_32 : decode cX10_odds 32 = .ok (.lstore_n 2, 1) := by decide +kernel
theorem dX10_odds_33 : decode cX10_odds 33 = .ok (.iconst 0, 1) := by decide +kernel
theorem dX10_odds_34 : decode cX10_odds 34 = .ok (.istore 4, 2) := by decide +kernel
theorem dX10_odds_36 : decode cX10_odds 36 = .ok (.iload 4, 2) := by decide +kernel
theorem dX10_odds_38 : decode cX10_odds 38 = .ok (.iconst 1, 1) := by decide +kernel
theorem dX10_odds_39 : decode cX10_odds 39 = .ok (.aload_n 0, 1) := by decide +kernel
theorem dX10_odds_40 : decode cX10_odds 40 = .ok (.getfield 89, 3) := by decide +kernel
theorem dX10_odds_43 : decode cX10_odds 43 = .ok (.ishl, 1) := by decide +kernel
theorem dX10_odds_44 : decode cX10_odds 44 = .ok (.if_icmp .ge 35, 3) := by decide +kernel
theorem dX10_odds_47 : decode cX10_odds 47 = .ok (.aload_n 0, 1) := by decide +kernel
theorem dX10_odds_48 : decode cX10_odds 48 = .ok (.iload 4, 2) := by decide +kernel
theorem dX10_odds_50 : decode cX10_odds 50 = .ok (.invokevirtual 117, 3) := by decide +kernel
theorem dX10_odds_53 : decode cX10_odds 53 = .ok (.aload_n 0, 1) := by decide +kernel
theorem dX10_odds_54 : decode cX10_odds 54 = .ok (.getfield 56, 3) := by decide +kernel
theorem dX10_odds_57 : decode cX10_odds 57 = .ok (.iload_n 1, 1) := by decide +kernel
theorem dX10_odds_58 : decode cX10_odds 58 = .ok (.iaload, 1) := by decide +kernel
theorem dX10_odds_59 : decode cX10_odds 59 = .ok (.iconst (-1), 1) := by decide +kernel
theorem dX10_odds_60 : decode cX10_odds 60 = .ok (.if_icmp .eq 13, 3) := by decide +kernel
theorem dX10_odds_63 : decode cX10_odds 63 = .ok (.lload_n 2, 1) := by decide +kernel
theorem dX10_odds_64 : decode cX10_odds 64 = .ok (.aload_n 0, 1) := by decide +kernel
theorem dX10_odds_65 : decode cX10_odds 65 = .ok (.iload 4, 2) := by decide +kernel
theorem dX10_odds_67 : decode cX10_odds 67 = .ok (.iconst (-1), 1) := by decide +kernel
theorem dX10_odds_68 : decode cX10_odds 68 = .ok (.invokevirtual 257, 3) := by decide +kernel
theorem dX10_odds_71 : decode cX10_odds 71 = .ok (.ladd, 1) := by decide +kernel
theorem dX10_odds_72 : decode cX10_odds 72 = .ok (.lstore_n 2, 1) := by decide +kernel
theorem dX10_odds_73 : decode cX10_odds 73 = .ok (.iinc 4 1, 3) := by decide +kernel
theorem dX10_odds_76 : decode cX10_odds 76 = .ok (.goto (-40), 3) := by decide +kernel
theorem dX10_odds_79 : decode cX10_odds 79 = .ok (.ldc2_w 261, 3) := by decide +kernel
theorem dX10_odds_82 : decode cX10_odds 82 = .ok (.lload_n 2, 1) := by decide +kernel
theorem dX10_odds_83 : decode cX10_odds 83 = .ok (.lmul, 1) := by decide +kernel
theorem dX10_odds_84 : decode cX10_odds 84 = .ok (.aload_n 0, 1) := by decide +kernel
theorem dX10_odds_85 : decode cX10_odds 85 = .ok (.iconst (-1), 1) := by decide +kernel
theorem dX10_odds_86 : decode cX10_odds 86 = .ok (.invokevirtual 263, 3) := by decide +kernel
theorem dX10_odds_89 : decode cX10_odds 89 = .ok (.ldiv, 1) := by decide +kernel
theorem dX10_odds_90 : decode cX10_odds 90 = .ok (.l2i, 1) := by decide +kernel
theorem dX10_odds_91 : decode cX10_odds 91 = .ok (.ireturn, 1) := by decide +kernel
theorem dX10_likely_0 : decode cX10_likely 0 = .ok (.aload_n 0, 1) := by decide +kernel
theorem dX10_likely_1 : decode cX10_likely 1 = .ok (.iload_n 1, 1) := by decide +kernel
theorem dX10_likely_2 : decode cX10_likely 2 = .ok (.invokevirtual 110, 3) := by decide +kernel
theorem dX10_likely_5 : decode cX10_likely 5 = .ok (.ifCond .ne 10, 3) := by decide +kernel
theorem dX10_likely_8 : decode cX10_likely 8 = .ok (.aload_n 0, 1) := by decide +kernel
theorem dX10_likely_9 : decode cX10_likely 9 = .ok (.bipush (-2), 2) := by decide +kernel
theorem dX10_likely_11 : decode cX10_likely 11 = .ok (.invokevirtual 96, 3) := by decide +kernel
theorem dX10_likely_14 : decode cX10_likely 14 = .ok (.ireturn, 1) := by decide +kernel
theorem dX10_likely_15 : decode cX10_likely 15 = .ok (.lconst 0, 1) := by decide +kernel
theorem dX10_likely_16 : decode cX10_likely 16 = .ok (.lstore_n 2, 1) := by decide +kernel
theorem dX10_likely_17 : decode cX10_likely 17 = .ok (.iconst 0, 1) := by decide +kernel
theorem dX10_likely_18 : decode cX10_likely 18 = .ok (.istore 4, 2) := by decide +kernel
theorem dX10_likely_20 : decode cX10_likely 20 = .ok (.iload 4, 2) := by decide +kernel
theorem dX10_likely_22 : decode cX10_likely 22 = .ok (.iconst 1, 1) := by decide +kernel
theorem dX10_likely_23 : decode cX10_likely 23 = .ok (.aload_n 0, 1) := by decide +kernel
theorem dX10_likely_24 : decode cX10_likely 24 = .ok (.getfield 89, 3) := by decide +kernel
theorem dX10_likely_27 : decode cX10_likely 27 = .ok (.ishl, 1) := by decide +kernel
theorem dX10_likely_28 : decode cX10_likely 28 = .ok (.if_icmp .ge 45, 3) := by decide +kernel
theorem dX10_likely_31 : decode cX10_likely 31 = .ok (.iload 4, 2) := by decide +kernel
theorem dX10_likely_33 : decode cX10_likely 33 = .ok (.iload_n 1, 1) := by decide +kernel
theorem dX10_likely_34 : decode cX10_likely 34 = .ok (.invokestatic 194, 3) := by decide +kernel
theorem dX10_likely_37 : decode cX10_likely 37 = .ok (.ifCond .ne 6, 3) := by decide +kernel
theorem dX10_likely_40 : decode cX10_likely 40 = .ok (.goto 27, 3) := by decide +kernel
theorem dX10_likely_43 : decode cX10_likely 43 = .ok (.aload_n 0, 1) := by decide +kernel
theorem dX10_likely_44 : decode cX10_likely 44 = .ok (.iload 4, 2) := by decide +kernel
theorem dX10_likely_46 : decode cX10_likely 46 = .ok (.invokevirtual 117, 3) := by decide +kernel
theorem dX10_likely_49 : decode cX10_likely 49 = .ok (.aload_n 0, 1) := by decide +kernel
theorem dX10_likely_50 : decode cX10_likely 50 = .ok (.iload_n 1, 1) := by decide +kernel
theorem dX10_likely_51 : decode cX10_likely 51 = .ok (.invokevirtual 231, 3) := by decide +kernel
theorem dX10_likely_54 : decode cX10_likely 54 = .ok (.ifCond .eq 13, 3) := by decide +kernel
theorem dX10_likely_57 : decode cX10_likely 57 = .ok (.lload_n 2, 1) := by decide +kernel
theorem dX10_likely_58 : decode cX10_likely 58 = .ok (.aload_n 0, 1) := by decide +kernel
theorem dX10_likely_59 : decode cX10_likely 59 = .ok (.iload 4, 2) := by decide +kernel
theorem dX10_likely_61 : decode cX10_likely 61 = .ok (.iload_n 1, 1) := by decide +kernel
theorem dX10_likely_62 : decode cX10_likely 62 = .ok (.invokevirtual 257, 3) := by decide +kernel
theorem dX10_likely_65 : decode cX10_likely 65 = .ok (.ladd, 1) := by decide +kernel
theorem dX10_likely_66 : decode cX10_likely 66 = .ok (.lstore_n 2, 1) := by decide +kernel
theorem dX10_likely_67 : decode cX10_likely 67 = .ok (.iinc 4 1, 3) := by decide +kernel
theorem dX10_likely_70 : decode cX10_likely 70 = .ok (.goto (-50), 3) := by decide +kernel
theorem dX10_likely_73 : decode cX10_likely 73 = .ok (.ldc2_w 261, 3) := by decide +kernel
theorem dX10_likely_76 : decode cX10_likely 76 = .ok (.lload_n 2, 1) := by decide +kernel
theorem dX10_likely_77 : decode cX10_likely 77 = .ok (.lmul, 1) := by decide +kernel
theorem dX10_likely_78 : decode cX10_likely 78 = .ok (.aload_n 0, 1) := by decide +kernel
theorem dX10_likely_79 : decode cX10_likely 79 = .ok (.iload_n 1, 1) := by decide +kernel
theorem dX10_likely_80 : decode cX10_likely 80 = .ok (.invokevirtual 263, 3) := by decide +kernel
theorem dX10_likely_83 : decode cX10_likely 83 = .ok (.ldiv, 1) := by decide +kernel
theorem dX10_likely_84 : decode cX10_likely 84 = .ok (.l2i, 1) := by decide +kernel
theorem dX10_likely_85 : decode cX10_likely 85 = .ok (.ireturn, 1) := by decide +kernel
theorem dX10_gladOdds_0 : decode cX10_gladOdds 0 = .ok (.iload_n 1, 1) := by decide +kernel
theorem dX10_gladOdds_1 : decode cX10_gladOdds 1 = .ok (.iconst 0, 1) := by decide +kernel
theorem dX10_gladOdds_2 : decode cX10_gladOdds 2 = .ok (.bipush 8, 2) := by decide +kernel
theorem dX10_gladOdds_4 : decode cX10_gladOdds 4 = .ok (.invokestatic 85, 3) := by decide +kernel
theorem dX10_gladOdds_7 : decode cX10_gladOdds 7 = .ok (.ifCond .ne 10, 3) := by decide +kernel
theorem dX10_gladOdds_10 : decode cX10_gladOdds 10 = .ok (.aload_n 0, 1) := by decide +kernel
theorem dX10_gladOdds_11 : decode cX10_gladOdds 11 = .ok (.bipush (-2), 2) := by decide +kernel
theorem dX10_gladOdds_13 : decode cX10_gladOdds 13 = .ok (.invokevirtual 96, 3) := by decide +kernel
theorem dX10_gladOdds_16 : decode cX10_gladOdds 16 = .ok (.ireturn, 1) := by decide +kernel
theorem dX10_gladOdds_17 : decode cX10_gladOdds 17 = .ok (.lconst 0, 1) := by decide +kernel
theorem dX10_gladOdds_18 : decode cX10_gladOdds 18 = .ok (.lstore_n 2, 1) := by decide +kernel
theorem dX10_gladOdds_19 : decode cX10_gladOdds 19 = .ok (.iconst 0, 1) := by decide +kernel
theorem dX10_gladOdds_20 : decode cX10_gladOdds 20 = .ok (.istore 4, 2) := by decide +kernel
theorem dX10_gladOdds_22 : decode cX10_gladOdds 22 = .ok (.iload 4, 2) := by decide +kernel
theorem dX10_gladOdds_24 : decode cX10_gladOdds 24 = .ok (.iconst 1, 1) := by decide +kernel
theorem dX10_gladOdds_25 : decode cX10_gladOdds 25 = .ok (.aload_n 0, 1) := by decide +kernel
theorem dX10_gladOdds_26 : decode cX10_gladOdds 26 = .ok (.getfield 89, 3) := by decide +kernel
theorem dX10_gladOdds_29 : decode cX10_gladOdds 29 = .ok (.ishl, 1) := by decide +kernel
theorem dX10_gladOdds_30 : decode cX10_gladOdds 30 = .ok (.if_icmp .ge 29, 3) := by decide +kernel
theorem dX10_gladOdds_33 : decode cX10_gladOdds 33 = .ok (.aload_n 0, 1) := by decide +kernel
theorem dX10_gladOdds_34 : decode cX10_gladOdds 34 = .ok (.iload 4, 2) := by decide +kernel
theorem dX10_gladOdds_36 : decode cX10_gladOdds 36 = .ok (.invokevirtual 240, 3) := by decide +kernel
theorem dX10_gladOdds_39 : decode cX10_gladOdds 39 = .ok (.iload_n 1, 1) := by decide +kernel
theorem dX10_gladOdds_40 : decode cX10_gladOdds 40 = .ok (.if_icmp .lt 13, 3) := by decide +kernel
theorem dX10_gladOdds_43 : decode cX10_gladOdds 43 = .ok (.lload_n 2, 1) := by decide +kernel
theorem dX10_gladOdds_44 : decode cX10_gladOdds 44 = .ok (.aload_n 0, 1) := by decide +kernel
theorem dX10_gladOdds_45 : decode cX10_gladOdds 45 = .ok (.iload 4, 2) := by decide +kernel
theorem dX10_gladOdds_47 : decode cX10_gladOdds 47 = .ok (.iconst (-1), 1) := by decide +kernel
theorem dX10_gladOdds_48 : decode cX10_gladOdds 48 = .ok (.invokevirtual 257, 3) := by decide +kernel
theorem dX10_gladOdds_51 : decode cX10_gladOdds 51 = .ok (.ladd, 1) := by decide +kernel
theorem dX10_gladOdds_52 : decode cX10_gladOdds 52 = .ok (.lstore_n 2, 1) := by decide +kernel
theorem dX10_gladOdds_53 : decode cX10_gladOdds 53 = .ok (.iinc 4 1, 3) := by decide +kernel
theorem dX10_gladOdds_56 : decode cX10_gladOdds 56 = .ok (.goto (-34), 3) := by decide +kernel
theorem dX10_gladOdds_59 : decode cX10_gladOdds 59 = .ok (.ldc2_w 261, 3) := by decide +kernel
theorem dX10_gladOdds_62 : decode cX10_gladOdds 62 = .ok (.lload_n 2, 1) := by decide +kernel
theorem dX10_gladOdds_63 : decode cX10_gladOdds 63 = .ok (.lmul, 1) := by decide +kernel
theorem dX10_gladOdds_64 : decode cX10_gladOdds 64 = .ok (.aload_n 0, 1) := by decide +kernel
theorem dX10_gladOdds_65 : decode cX10_gladOdds 65 = .ok (.iconst (-1), 1) := by decide +kernel
theorem dX10_gladOdds_66 : decode cX10_gladOdds 66 = .ok (.invokevirtual 263, 3) := by decide +kernel
theorem dX10_gladOdds_69 : decode cX10_gladOdds 69 = .ok (.ldiv, 1) := by decide +kernel
theorem dX10_gladOdds_70 : decode cX10_gladOdds 70 = .ok (.l2i, 1) := by decide +kernel
theorem dX10_gladOdds_71 : decode cX10_gladOdds 71 = .ok (.ireturn, 1) := by decide +kernel
theorem dX10_meanLeft_0 : decode cX10_meanLeft 0 = .ok (.lconst 0, 1) := by decide +kernel
theorem dX10_meanLeft_1 : decode cX10_meanLeft 1 = .ok (.lstore_n 1, 1) := by decide +kernel
theorem dX10_meanLeft_2 : decode cX10_meanLeft 2 = .ok (.iconst 0, 1) := by decide +kernel
theorem dX10_meanLeft_3 : decode cX10_meanLeft 3 = .ok (.istore_n 3, 1) := by decide +kernel
theorem dX10_meanLeft_4 : decode cX10_meanLeft 4 = .ok (.iload_n 3, 1) := by decide +kernel
theorem dX10_meanLeft_5 : decode cX10_meanLeft 5 = .ok (.iconst 1, 1) := by decide +kernel
theorem dX10_meanLeft_6 : decode cX10_meanLeft 6 = .ok (.aload_n 0, 1) := by decide +kernel
theorem dX10_meanLeft_7 : decode cX10_meanLeft 7 = .ok (.getfield 89, 3) := by decide +kernel
theorem dX10_meanLeft_10 : decode cX10_meanLeft 10 = .ok (.ishl, 1) := by decide +kernel
theorem dX10_meanLeft_11 : decode cX10_meanLeft 11 = .ok (.if_icmp .ge 32, 3) := by decide +kernel
theorem dX10_meanLeft_14 : decode cX10_meanLeft 14 = .ok (.aload_n 0, 1) := by decide +kernel
theorem dX10_meanLeft_15 : decode cX10_meanLeft 15 = .ok (.iload_n 3, 1) := by decide +kernel
theorem dX10_meanLeft_16 : decode cX10_meanLeft 16 = .ok (.invokevirtual 117, 3) := by decide +kernel
theorem dX10_meanLeft_19 : decode cX10_meanLeft 19 = .ok (.lload_n 1, 1) := by decide +kernel
theorem dX10_meanLeft_20 : decode cX10_meanLeft 20 = .ok (.aload_n 0, 1) := by decide +kernel
theorem dX10_meanLeft_21 : decode cX10_meanLeft 21 = .ok (.iload_n 3, 1) := by decide +kernel
theorem dX10_meanLeft_22 : decode cX10_meanLeft 22 = .ok (.iconst (-1), 1) := by decide +kernel
theorem dX10_meanLeft_23 : decode cX10_meanLeft 23 = .ok (.invokevirtual 257, 3) := by decide +kernel
theorem dX10_meanLeft_26 : decode cX10_meanLeft 26 = .ok (.aload_n 0, 1) := by decide +kernel
theorem dX10_meanLeft_27 : decode cX10_meanLeft 27 = .ok (.invokevirtual 237, 3) := by decide +kernel
theorem dX10_meanLeft_30 : decode cX10_meanLeft 30 = .ok (.invokestatic 243, 3) := by decide +kernel
theorem dX10_meanLeft_33 : decode cX10_meanLeft 33 = .ok (.i2l, 1) := by decide +kernel
theorem dX10_meanLeft_34 : decode cX10_meanLeft 34 = .ok (.lmul, 1) := by decide +kernel
theorem dX10_meanLeft_35 : decode cX10_meanLeft 35 = .ok (.ladd, 1) := by decide +kernel
theorem dX10_meanLeft_36 : decode cX10_meanLeft 36 = .ok (.lstore_n 1, 1) := by decide +kernel
theorem dX10_meanLeft_37 : decode cX10_meanLeft 37 = .ok (.iinc 3 1, 3) := by decide +kernel
theorem dX10_meanLeft_40 : decode cX10_meanLeft 40 = .ok (.goto (-36), 3) := by decide +kernel
theorem dX10_meanLeft_43 : decode cX10_meanLeft 43 = .ok (.ldc2_w 267, 3) := by decide +kernel
theorem dX10_meanLeft_46 : decode cX10_meanLeft 46 = .ok (.lload_n 1, 1) := by decide +kernel
theorem dX10_meanLeft_47 : decode cX10_meanLeft 47 = .ok (.lmul, 1) := by decide +kernel
theorem dX10_meanLeft_48 : decode cX10_meanLeft 48 = .ok (.aload_n 0, 1) := by decide +kernel
theorem dX10_meanLeft_49 : decode cX10_meanLeft 49 = .ok (.iconst (-1), 1) := by decide +kernel
theorem dX10_meanLeft_50 : decode cX10_meanLeft 50 = .ok (.invokevirtual 263, 3) := by decide +kernel
theorem dX10_meanLeft_53 : decode cX10_meanLeft 53 = .ok (.ldiv, 1) := by decide +kernel
theorem dX10_meanLeft_54 : decode cX10_meanLeft 54 = .ok (.l2i, 1) := by decide +kernel
theorem dX10_meanLeft_55 : decode cX10_meanLeft 55 = .ok (.ireturn, 1) := by decide +kernel
theorem dX10_empty_0 : decode cX10_empty 0 = .ok (.aload_n 0, 1) := by decide +kernel
theorem dX10_empty_1 : decode cX10_empty 1 = .ok (.iload_n 1, 1) := by decide +kernel
theorem dX10_empty_2 : decode cX10_empty 2 = .ok (.invokevirtual 234, 3) := by decide +kernel
theorem dX10_empty_5 : decode cX10_empty 5 = .ok (.ifCond .ne 10, 3) := by decide +kernel
theorem dX10_empty_8 : decode cX10_empty 8 = .ok (.aload_n 0, 1) := by decide +kernel
theorem dX10_empty_9 : decode cX10_empty 9 = .ok (.bipush (-2), 2) := by decide +kernel
theorem dX10_empty_11 : decode cX10_empty 11 = .ok (.invokevirtual 96, 3) := by decide +kernel
theorem dX10_empty_14 : decode cX10_empty 14 = .ok (.ireturn, 1) := by decide +kernel
theorem dX10_empty_15 : decode cX10_empty 15 = .ok (.aload_n 0, 1) := by decide +kernel
theorem dX10_empty_16 : decode cX10_empty 16 = .ok (.iload_n 1, 1) := by decide +kernel
theorem dX10_empty_17 : decode cX10_empty 17 = .ok (.invokevirtual 117, 3) := by decide +kernel
theorem dX10_empty_20 : decode cX10_empty 20 = .ok (.iconst 0, 1) := by decide +kernel
theorem dX10_empty_21 : decode cX10_empty 21 = .ok (.istore_n 2, 1) := by decide +kernel
theorem dX10_empty_22 : decode cX10_empty 22 = .ok (.iconst 0, 1) := by decide +kernel
theorem dX10_empty_23 : decode cX10_empty 23 = .ok (.istore_n 3, 1) := by decide +kernel
theorem dX10_empty_24 : decode cX10_empty 24 = .ok (.iload_n 3, 1) := by decide +kernel
theorem dX10_empty_25 : decode cX10_empty 25 = .ok (.aload_n 0, 1) := by decide +kernel
theorem dX10_empty_26 : decode cX10_empty 26 = .ok (.getfield 89, 3) := by decide +kernel
theorem dX10_empty_29 : decode cX10_empty 29 = .ok (.if_icmp .ge 32, 3) := by decide +kernel
theorem dX10_empty_32 : decode cX10_empty 32 = .ok (.iload_n 1, 1) := by decide +kernel
theorem dX10_empty_33 : decode cX10_empty 33 = .ok (.iload_n 3, 1) := by decide +kernel
theorem dX10_empty_34 : decode cX10_empty 34 = .ok (.invokestatic 194, 3) := by decide +kernel
theorem dX10_empty_37 : decode cX10_empty 37 = .ok (.ifCond .eq 18, 3) := by decide +kernel
theorem dX10_empty_40 : decode cX10_empty 40 = .ok (.aload_n 0, 1) := by decide +kernel
theorem dX10_empty_41 : decode cX10_empty 41 = .ok (.getfield 62, 3) := by decide +kernel
theorem dX10_empty_44 : decode cX10_empty 44 = .ok (.iload_n 3, 1) := by decide +kernel
theorem dX10_empty_45 : decode cX10_empty 45 = .ok (.iaload, 1) := by decide +kernel
theorem dX10_empty_46 : decode cX10_empty 46 = .ok (.ifCond .ne 9, 3) := by decide +kernel
theorem dX10_empty_49 : decode cX10_empty 49 = .ok (.iload_n 2, 1) := by decide +kernel
theorem dX10_empty_50 : decode cX10_empty 50 = .ok (.iconst 1, 1) := by decide +kernel
theorem dX10_empty_51 : decode cX10_empty 51 = .ok (.iload_n 3, 1) := by decide +kernel
theorem dX10_empty_52 : decode cX10_empty 52 = .ok (.ishl, 1) := by decide +kernel
theorem dX10_empty_53 : decode cX10_empty 53 = .ok (.ior, 1) := by decide +kernel
theorem dX10_empty_54 : decode cX10_empty 54 = .ok (.istore_n 2, 1) := by decide +kernel
theorem dX10_empty_55 : decode cX10_empty 55 = .ok (.iinc 3 1, 3) := by decide +kernel
theorem dX10_empty_58 : decode cX10_empty 58 = .ok (.goto (-34), 3) := by decide +kernel
theorem dX10_empty_61 : decode cX10_empty 61 = .ok (.iload_n 2, 1) := by decide +kernel
theorem dX10_empty_62 : decode cX10_empty 62 = .ok (.ireturn, 1) := by decide +kernel
theorem dX10_without_0 : decode cX10_without 0 = .ok (.aload_n 0, 1) := by decide +kernel
theorem dX10_without_1 : decode cX10_without 1 = .ok (.iload_n 1, 1) := by decide +kernel
theorem dX10_without_2 : decode cX10_without 2 = .ok (.invokevirtual 110, 3) := by decide +kernel
theorem dX10_without_5 : decode cX10_without 5 = .ok (.ifCond .eq 24, 3) := by decide +kernel
theorem dX10_without_8 : decode cX10_without 8 = .ok (.aload_n 0, 1) := by decide +kernel
theorem dX10_without_9 : decode cX10_without 9 = .ok (.iconst 1, 1) := by decide +kernel
theorem dX10_without_10 : decode cX10_without 10 = .ok (.aload_n 0, 1) := by decide +kernel
theorem dX10_without_11 : decode cX10_without 11 = .ok (.getfield 89, 3) := by decide +kernel
theorem dX10_without_14 : decode cX10_without 14 = .ok (.ishl, 1) := by decide +kernel
theorem dX10_without_15 : decode cX10_without 15 = .ok (.iconst 1, 1) := by decide +kernel
theorem dX10_without_16 : decode cX10_without 16 = .ok (.isub, 1) := by decide +kernel
theorem dX10_without_17 : decode cX10_without 17 = .ok (.iconst 1, 1) := by decide +kernel
theorem dX10_without_18 : decode cX10_without 18 = .ok (.iload_n 1, 1) := by decide +kernel
theorem dX10_without_19 : decode cX10_without 19 = .ok (.ishl, 1) := by decide +kernel
theorem dX10_without_20 : decode cX10_without 20 = .ok (.iconst (-1), 1) := by decide +kernel
theorem dX10_without_21 : decode cX10_without 21 = .ok (.ixor, 1) := by decide +kernel
theorem dX10_without_22 : decode cX10_without 22 = .ok (.iand, 1) := by decide +kernel
theorem dX10_without_23 : decode cX10_without 23 = .ok (.invokevirtual 240, 3) := by decide +kernel
theorem dX10_without_26 : decode cX10_without 26 = .ok (.goto 9, 3) := by decide +kernel
theorem dX10_without_29 : decode cX10_without 29 = .ok (.aload_n 0, 1) := by decide +kernel
theorem dX10_without_30 : decode cX10_without 30 = .ok (.bipush (-2), 2) := by decide +kernel
theorem dX10_without_32 : decode cX10_without 32 = .ok (.invokevirtual 96, 3) := by decide +kernel
theorem dX10_without_35 : decode cX10_without 35 = .ok (.ireturn, 1) := by decide +kernel
theorem dX10_exchanges_0 : decode cX10_exchanges 0 = .ok (.aload_n 0, 1) := by decide +kernel
theorem dX10_exchanges_1 : decode cX10_exchanges 1 = .ok (.getfield 19, 3) := by decide +kernel
theorem dX10_exchanges_4 : decode cX10_exchanges 4 = .ok (.iload_n 1, 1) := by decide +kernel
theorem dX10_exchanges_5 : decode cX10_exchanges 5 = .ok (.iaload, 1) := by decide +kernel
theorem dX10_exchanges_6 : decode cX10_exchanges 6 = .ok (.istore_n 3, 1) := by decide +kernel
theorem dX10_exchanges_7 : decode cX10_exchanges 7 = .ok (.aload_n 0, 1) := by decide +kernel
theorem dX10_exchanges_8 : decode cX10_exchanges 8 = .ok (.getfield 19, 3) := by decide +kernel
theorem dX10_exchanges_11 : decode cX10_exchanges 11 = .ok (.iload_n 1, 1) := by decide +kernel
theorem dX10_exchanges_12 : decode cX10_exchanges 12 = .ok (.aload_n 0, 1) := by decide +kernel
theorem dX10_exchanges_13 : decode cX10_exchanges 13 = .ok (.getfield 19, 3) := by decide +kernel
theorem dX10_exchanges_16 : decode cX10_exchanges 16 = .ok (.iload_n 2, 1) := by decide +kernel
theorem dX10_exchanges_17 : decode cX10_exchanges 17 = .ok (.iaload, 1) := by decide +kernel
theorem dX10_exchanges_18 : decode cX10_exchanges 18 = .ok (.iastore, 1) := by decide +kernel
theorem dX10_exchanges_19 : decode cX10_exchanges 19 = .ok (.aload_n 0, 1) := by decide +kernel
theorem dX10_exchanges_20 : decode cX10_exchanges 20 = .ok (.getfield 19, 3) := by decide +kernel
theorem dX10_exchanges_23 : decode cX10_exchanges 23 = .ok (.iload_n 2, 1) := by decide +kernel
theorem dX10_exchanges_24 : decode cX10_exchanges 24 = .ok (.iload_n 3, 1) := by decide +kernel
theorem dX10_exchanges_25 : decode cX10_exchanges 25 = .ok (.iastore, 1) := by decide +kernel
theorem dX10_exchanges_26 : decode cX10_exchanges 26 = .ok (.aload_n 0, 1) := by decide +kernel
theorem dX10_exchanges_27 : decode cX10_exchanges 27 = .ok (.iconst 1, 1) := by decide +kernel
theorem dX10_exchanges_28 : decode cX10_exchanges 28 = .ok (.aload_n 0, 1) := by decide +kernel
theorem dX10_exchanges_29 : decode cX10_exchanges 29 = .ok (.getfield 89, 3) := by decide +kernel
theorem dX10_exchanges_32 : decode cX10_exchanges 32 = .ok (.ishl, 1) := by decide +kernel
theorem dX10_exchanges_33 : decode cX10_exchanges 33 = .ok (.iconst 1, 1) := by decide +kernel
theorem dX10_exchanges_34 : decode cX10_exchanges 34 = .ok (.isub, 1) := by decide +kernel
theorem dX10_exchanges_35 : decode cX10_exchanges 35 = .ok (.invokevirtual 240, 3) := by decide +kernel
theorem dX10_exchanges_38 : decode cX10_exchanges 38 = .ok (.istore 4, 2) := by decide +kernel
theorem dX10_exchanges_40 : decode cX10_exchanges 40 = .ok (.aload_n 0, 1) := by decide +kernel
theorem dX10_exchanges_41 : decode cX10_exchanges 41 = .ok (.getfield 19, 3) := by decide +kernel
theorem dX10_exchanges_44 : decode cX10_exchanges 44 = .ok (.iload_n 2, 1) := by decide +kernel
theorem dX10_exchanges_45 : decode cX10_exchanges 45 = .ok (.aload_n 0, 1) := by decide +kernel
theorem dX10_exchanges_46 : decode cX10_exchanges 46 = .ok (.getfield 19, 3) := by decide +kernel
theorem dX10_exchanges_49 : decode cX10_exchanges 49 = .ok (.iload_n 1, 1) := by decide +kernel
theorem dX10_exchanges_50 : decode cX10_exchanges 50 = .ok (.iaload, 1) := by decide +kernel
theorem dX10_exchanges_51 : decode cX10_exchanges 51 = .ok (.iastore, 1) := by decide +kernel
theorem dX10_exchanges_52 : decode cX10_exchanges 52 = .ok (.aload_n 0, 1) := by decide +kernel
theorem dX10_exchanges_53 : decode cX10_exchanges 53 = .ok (.getfield 19, 3) := by decide +kernel
theorem dX10_exchanges_56 : decode cX10_exchanges 56 = .ok (.iload_n 1, 1) := by decide +kernel
theorem dX10_exchanges_57 : decode cX10_exchanges 57 = .ok (.iload_n 3, 1) := by decide +kernel
theorem dX10_exchanges_58 : decode cX10_exchanges 58 = .ok (.iastore, 1) := by decide +kernel
theorem dX10_exchanges_59 : decode cX10_exchanges 59 = .ok (.iload 4, 2) := by decide +kernel
theorem dX10_exchanges_61 : decode cX10_exchanges 61 = .ok (.ireturn, 1) := by decide +kernel
theorem dX10_exchanged_0 : decode cX10_exchanged 0 = .ok (.aload_n 0, 1) := by decide +kernel
theorem dX10_exchanged_1 : decode cX10_exchanged 1 = .ok (.iload_n 1, 1) := by decide +kernel
theorem dX10_exchanged_2 : decode cX10_exchanged 2 = .ok (.invokevirtual 110, 3) := by decide +kernel
theorem dX10_exchanged_5 : decode cX10_exchanged 5 = .ok (.ifCond .eq 25, 3) := by decide +kernel
theorem dX10_exchanged_8 : decode cX10_exchanged 8 = .ok (.aload_n 0, 1) := by decide +kernel
theorem dX10_exchanged_9 : decode cX10_exchanged 9 = .ok (.iload_n 2, 1) := by decide +kernel
theorem dX10_exchanged_10 : decode cX10_exchanged 10 = .ok (.invokevirtual 110, 3) := by decide +kernel
theorem dX10_exchanged_13 : decode cX10_exchanged 13 = .ok (.ifCond .eq 17, 3) := by decide +kernel
theorem dX10_exchanged_16 : decode cX10_exchanged 16 = .ok (.iload_n 1, 1) := by decide +kernel
theorem dX10_exchanged_17 : decode cX10_exchanged 17 = .ok (.iload_n 2, 1) := by decide +kernel
theorem dX10_exchanged_18 : decode cX10_exchanged 18 = .ok (.if_icmp .eq 12, 3) := by decide +kernel
theorem dX10_exchanged_21 : decode cX10_exchanged 21 = .ok (.aload_n 0, 1) := by decide +kernel
theorem dX10_exchanged_22 : decode cX10_exchanged 22 = .ok (.iload_n 1, 1) := by decide +kernel
theorem dX10_exchanged_23 : decode cX10_exchanged 23 = .ok (.iload_n 2, 1) := by decide +kernel
theorem dX10_exchanged_24 : decode cX10_exchanged 24 = .ok (.invokevirtual 269, 3) := by decide +kernel
theorem dX10_exchanged_27 : decode cX10_exchanged 27 = .ok (.goto 9, 3) := by decide +kernel
theorem dX10_exchanged_30 : decode cX10_exchanged 30 = .ok (.aload_n 0, 1) := by decide +kernel
theorem dX10_exchanged_31 : decode cX10_exchanged 31 = .ok (.bipush (-2), 2) := by decide +kernel
theorem dX10_exchanged_33 : decode cX10_exchanged 33 = .ok (.invokevirtual 96, 3) := by decide +kernel
theorem dX10_exchanged_36 : decode cX10_exchanged 36 = .ok (.ireturn, 1) := by decide +kernel
theorem dX10_bestPair_0 : decode cX10_bestPair 0 = .ok (.iconst (-1), 1) := by decide +kernel
theorem dX10_bestPair_1 : decode cX10_bestPair 1 = .ok (.istore_n 1, 1) := by decide +kernel
theorem dX10_bestPair_2 : decode cX10_bestPair 2 = .ok (.iconst (-1), 1) := by decide +kernel
theorem dX10_bestPair_3 : decode cX10_bestPair 3 = .ok (.istore_n 2, 1) := by decide +kernel
theorem dX10_bestPair_4 : decode cX10_bestPair 4 = .ok (.iconst 0, 1) := by decide +kernel
theorem dX10_bestPair_5 : decode cX10_bestPair 5 = .ok (.istore_n 3, 1) := by decide +kernel
theorem dX10_bestPair_6 : decode cX10_bestPair 6 = .ok (.iload_n 3, 1) := by decide +kernel
theorem dX10_bestPair_7 : decode cX10_bestPair 7 = .ok (.aload_n 0, 1) := by decide +kernel
theorem dX10_bestPair_8 : decode cX10_bestPair 8 = .ok (.getfield 89, 3) := by decide +kernel
theorem dX10_bestPair_11 : decode cX10_bestPair 11 = .ok (.if_icmp .ge 58, 3) := by decide +kernel
theorem dX10_bestPair_14 : decode cX10_bestPair 14 = .ok (.iload_n 3, 1) := by decide +kernel
theorem dX10_bestPair_15 : decode cX10_bestPair 15 = .ok (.iconst 1, 1) := by decide +kernel
theorem dX10_bestPair_16 : decode cX10_bestPair 16 = .ok (.iadd, 1) := by decide +kernel
theorem dX10_bestPair_17 : decode cX10_bestPair 17 = .ok (.istore 4, 2) := by decide +kernel
theorem dX10_bestPair_19 : decode cX10_bestPair 19 = .ok (.iload 4, 2) := by decide +kernel
theorem dX10_bestPair_21 : decode cX10_bestPair 21 = .ok (.aload_n 0, 1) := by decide +kernel
theorem dX10_bestPair_22 : decode cX10_bestPair 22 = .ok (.getfield 89, 3) := by decide +kernel
theorem dX10_bestPair_25 : decode cX10_bestPair 25 = .ok (.if_icmp .ge 38, 3) := by decide +kernel
theorem dX10_bestPair_28 : decode cX10_bestPair 28 = .ok (.aload_n 0, 1) := by decide +kernel
theorem dX10_bestPair_29 : decode cX10_bestPair 29 = .ok (.iload_n 3, 1) := by decide +kernel
theorem dX10_bestPair_30 : decode cX10_bestPair 30 = .ok (.iload 4, 2) := by decide +kernel
theorem dX10_bestPair_32 : decode cX10_bestPair 32 = .ok (.invokevirtual 269, 3) := by decide +kernel
theorem dX10_bestPair_35 : decode cX10_bestPair 35 = .ok (.istore 5, 2) := by decide +kernel
theorem dX10_bestPair_37 : decode cX10_bestPair 37 = .ok (.iload 5, 2) := by decide +kernel
theorem dX10_bestPair_39 : decode cX10_bestPair 39 = .ok (.iload_n 2, 1) := by decide +kernel
theorem dX10_bestPair_40 : decode cX10_bestPair 40 = .ok (.if_icmp .gt 6, 3) := by decide +kernel
theorem dX10_bestPair_43 : decode cX10_bestPair 43 = .ok (.goto 14, 3) := by decide +kernel
theorem dX10_bestPair_46 : decode cX10_bestPair 46 = .ok (.iload 5, 2) := by decide +kernel
theorem dX10_bestPair_48 : decode cX10_bestPair 48 = .ok (.istore_n 2, 1) := by decide +kernel
theorem dX10_bestPair_49 : decode cX10_bestPair 49 = .ok (.bipush 10, 2) := by decide +kernel
theorem dX10_bestPair_51 : decode cX10_bestPair 51 = .ok (.iload_n 3, 1) := by decide +kernel
theorem dX10_bestPair_52 : decode cX10_bestPair 52 = .ok (.imul, 1) := by decide +kernel
theorem dX10_bestPair_53 : decode cX10_bestPair 53 = .ok (.iload 4, 2) := by decide +kernel
theorem dX10_bestPair_55 : decode cX10_bestPair 55 = .ok (.iadd, 1) := by decide +kernel
theorem dX10_bestPair_56 : decode cX10_bestPair 56 = .ok (.istore_n 1, 1) := by decide +kernel
theorem dX10_bestPair_57 : decode cX10_bestPair 57 = .ok (.iinc 4 1, 3) := by decide +kernel
theorem dX10_bestPair_60 : decode cX10_bestPair 60 = .ok (.goto (-41), 3) := by decide +kernel
theorem dX10_bestPair_63 : decode cX10_bestPair 63 = .ok (.iinc 3 1, 3) := by decide +kernel
theorem dX10_bestPair_66 : decode cX10_bestPair 66 = .ok (.goto (-60), 3) := by decide +kernel
theorem dX10_bestPair_69 : decode cX10_bestPair 69 = .ok (.iload_n 1, 1) := by decide +kernel
theorem dX10_bestPair_70 : decode cX10_bestPair 70 = .ok (.ireturn, 1) := by decide +kernel
theorem dX10_gladOnes_0 : decode cX10_gladOnes 0 = .ok (.aload_n 0, 1) := by decide +kernel
theorem dX10_gladOnes_1 : decode cX10_gladOnes 1 = .ok (.iload_n 1, 1) := by decide +kernel
theorem dX10_gladOnes_2 : decode cX10_gladOnes 2 = .ok (.invokevirtual 234, 3) := by decide +kernel
theorem dX10_gladOnes_5 : decode cX10_gladOnes 5 = .ok (.ifCond .ne 10, 3) := by decide +kernel
theorem dX10_gladOnes_8 : decode cX10_gladOnes 8 = .ok (.aload_n 0, 1) := by decide +kernel
theorem dX10_gladOnes_9 : decode cX10_gladOnes 9 = .ok (.bipush (-2), 2) := by decide +kernel
theorem dX10_gladOnes_11 : decode cX10_gladOnes 11 = .ok (.invokevirtual 96, 3) := by decide +kernel
theorem dX10_gladOnes_14 : decode cX10_gladOnes 14 = .ok (.ireturn, 1) := by decide +kernel
theorem dX10_gladOnes_15 : decode cX10_gladOnes 15 = .ok (.aload_n 0, 1) := by decide +kernel
theorem dX10_gladOnes_16 : decode cX10_gladOnes 16 = .ok (.iload_n 1, 1) := by decide +kernel
theorem dX10_gladOnes_17 : decode cX10_gladOnes 17 = .ok (.invokevirtual 117, 3) := by decide +kernel
theorem dX10_gladOnes_20 : decode cX10_gladOnes 20 = .ok (.iconst 0, 1) := by decide +kernel
theorem dX10_gladOnes_21 : decode cX10_gladOnes 21 = .ok (.istore_n 2, 1) := by decide +kernel
theorem dX10_gladOnes_22 : decode cX10_gladOnes 22 = .ok (.iconst 0, 1) := by decide +kernel
theorem dX10_gladOnes_23 : decode cX10_gladOnes 23 = .ok (.istore_n 3, 1) := by decide +kernel
theorem dX10_gladOnes_24 : decode cX10_gladOnes 24 = .ok (.iload_n 3, 1) := by decide +kernel
theorem dX10_gladOnes_25 : decode cX10_gladOnes 25 = .ok (.aload_n 0, 1) := by decide +kernel
theorem dX10_gladOnes_26 : decode cX10_gladOnes 26 = .ok (.getfield 89, 3) := by decide +kernel
theorem dX10_gladOnes_29 : decode cX10_gladOnes 29 = .ok (.if_icmp .ge 31, 3) := by decide +kernel
theorem dX10_gladOnes_32 : decode cX10_gladOnes 32 = .ok (.iload_n 1, 1) := by decide +kernel
theorem dX10_gladOnes_33 : decode cX10_gladOnes 33 = .ok (.iload_n 3, 1) := by decide +kernel
theorem dX10_gladOnes_34 : decode cX10_gladOnes 34 = .ok (.invokestatic 194, 3) := by decide +kernel
theorem dX10_gladOnes_37 : decode cX10_gladOnes 37 = .ok (.ifCond .eq 17, 3) := by decide +kernel
theorem dX10_gladOnes_40 : decode cX10_gladOnes 40 = .ok (.aload_n 0, 1) := by decide +kernel
theorem dX10_gladOnes_41 : decode cX10_gladOnes 41 = .ok (.iload_n 3, 1) := by decide +kernel
theorem dX10_gladOnes_42 : decode cX10_gladOnes 42 = .ok (.invokevirtual 231, 3) := by decide +kernel
theorem dX10_gladOnes_45 : decode cX10_gladOnes 45 = .ok (.ifCond .eq 9, 3) := by decide +kernel
theorem dX10_gladOnes_48 : decode cX10_gladOnes 48 = .ok (.iload_n 2, 1) := by decide +kernel
theorem dX10_gladOnes_49 : decode cX10_gladOnes 49 = .ok (.iconst 1, 1) := by decide +kernel
theorem dX10_gladOnes_50 : decode cX10_gladOnes 50 = .ok (.iload_n 3, 1) := by decide +kernel
theorem dX10_gladOnes_51 : decode cX10_gladOnes 51 = .ok (.ishl, 1) := by decide +kernel
theorem dX10_gladOnes_52 : decode cX10_gladOnes 52 = .ok (.ior, 1) := by decide +kernel
theorem dX10_gladOnes_53 : decode cX10_gladOnes 53 = .ok (.istore_n 2, 1) := by decide +kernel
theorem dX10_gladOnes_54 : decode cX10_gladOnes 54 = .ok (.iinc 3 1, 3) := by decide +kernel
theorem dX10_gladOnes_57 : decode cX10_gladOnes 57 = .ok (.goto (-33), 3) := by decide +kernel
theorem dX10_gladOnes_60 : decode cX10_gladOnes 60 = .ok (.iload_n 2, 1) := by decide +kernel
theorem dX10_gladOnes_61 : decode cX10_gladOnes 61 = .ok (.ireturn, 1) := by decide +kernel
theorem dX10_oldest_0 : decode cX10_oldest 0 = .ok (.aload_n 0, 1) := by decide +kernel
theorem dX10_oldest_1 : decode cX10_oldest 1 = .ok (.iload_n 1, 1) := by decide +kernel
theorem dX10_oldest_2 : decode cX10_oldest 2 = .ok (.invokevirtual 110, 3) := by decide +kernel
theorem dX10_oldest_5 : decode cX10_oldest 5 = .ok (.ifCond .ne 10, 3) := by decide +kernel
theorem dX10_oldest_8 : decode cX10_oldest 8 = .ok (.aload_n 0, 1) := by decide +kernel
theorem dX10_oldest_9 : decode cX10_oldest 9 = .ok (.bipush (-2), 2) := by decide +kernel
theorem dX10_oldest_11 : decode cX10_oldest 11 = .ok (.invokevirtual 96, 3) := by decide +kernel
theorem dX10_oldest_14 : decode cX10_oldest 14 = .ok (.ireturn, 1) := by decide +kernel
theorem dX10_oldest_15 : decode cX10_oldest 15 = .ok (.aload_n 0, 1) := by decide +kernel
theorem dX10_oldest_16 : decode cX10_oldest 16 = .ok (.getfield 19, 3) := by decide +kernel
theorem dX10_oldest_19 : decode cX10_oldest 19 = .ok (.iload_n 1, 1) := by decide +kernel
theorem dX10_oldest_20 : decode cX10_oldest 20 = .ok (.iaload, 1) := by decide +kernel
theorem dX10_oldest_21 : decode cX10_oldest 21 = .ok (.istore_n 2, 1) := by decide +kernel
theorem dX10_oldest_22 : decode cX10_oldest 22 = .ok (.iconst (-1), 1) := by decide +kernel
theorem dX10_oldest_23 : decode cX10_oldest 23 = .ok (.istore_n 3, 1) := by decide +kernel
theorem dX10_oldest_24 : decode cX10_oldest 24 = .ok (.iconst 0, 1) := by decide +kernel
theorem dX10_oldest_25 : decode cX10_oldest 25 = .ok (.istore 4, 2) := by decide +kernel
theorem dX10_oldest_27 : decode cX10_oldest 27 = .ok (.iload 4, 2) := by decide +kernel
theorem dX10_oldest_29 : decode cX10_oldest 29 = .ok (.bipush 100, 2) := by decide +kernel
theorem dX10_oldest_31 : decode cX10_oldest 31 = .ok (.if_icmp .ge 40, 3) := by decide +kernel
theorem dX10_oldest_34 : decode cX10_oldest 34 = .ok (.aload_n 0, 1) := by decide +kernel
theorem dX10_oldest_35 : decode cX10_oldest 35 = .ok (.getfield 19, 3) := by decide +kernel
theorem dX10_oldest_38 : decode cX10_oldest 38 = .ok (.iload_n 1, 1) := by decide +kernel
theorem dX10_oldest_39 : decode cX10_oldest 39 = .ok (.iload 4, 2) := by decide +kernel
theorem dX10_oldest_41 : decode cX10_oldest 41 = .ok (.iastore, 1) := by decide +kernel
theorem dX10_oldest_42 : decode cX10_oldest 42 = .ok (.aload_n 0, 1) := by decide +kernel
theorem dX10_oldest_43 : decode cX10_oldest 43 = .ok (.iconst 1, 1) := by decide +kernel
theorem dX10_oldest_44 : decode cX10_oldest 44 = .ok (.aload_n 0, 1) := by decide +kernel
theorem dX10_oldest_45 : decode cX10_oldest 45 = .ok (.getfield 89, 3) := by decide +kernel
theorem dX10_oldest_48 : decode cX10_oldest 48 = .ok (.ishl, 1) := by decide +kernel
theorem dX10_oldest_49 : decode cX10_oldest 49 = .ok (.iconst 1, 1) := by decide +kernel
theorem dX10_oldest_50 : decode cX10_oldest 50 = .ok (.isub, 1) := by decide +kernel
theorem dX10_oldest_51 : decode cX10_oldest 51 = .ok (.invokevirtual 117, 3) := by decide +kernel
theorem dX10_oldest_54 : decode cX10_oldest 54 = .ok (.aload_n 0, 1) := by decide +kernel
theorem dX10_oldest_55 : decode cX10_oldest 55 = .ok (.iload_n 1, 1) := by decide +kernel
theorem dX10_oldest_56 : decode cX10_oldest 56 = .ok (.invokevirtual 231, 3) := by decide +kernel
theorem dX10_oldest_59 : decode cX10_oldest 59 = .ok (.ifCond .eq 6, 3) := by decide +kernel
theorem dX10_oldest_62 : decode cX10_oldest 62 = .ok (.iload 4, 2) := by decide +kernel
theorem dX10_oldest_64 : decode cX10_oldest 64 = .ok (.istore_n 3, 1) := by decide +kernel
theorem dX10_oldest_65 : decode cX10_oldest 65 = .ok (.iinc 4 1, 3) := by decide +kernel
theorem dX10_oldest_68 : decode cX10_oldest 68 = .ok (.goto (-41), 3) := by decide +kernel
theorem dX10_oldest_71 : decode cX10_oldest 71 = .ok (.aload_n 0, 1) := by decide +kernel
theorem dX10_oldest_72 : decode cX10_oldest 72 = .ok (.getfield 19, 3) := by decide +kernel
theorem dX10_oldest_75 : decode cX10_oldest 75 = .ok (.iload_n 1, 1) := by decide +kernel
theorem dX10_oldest_76 : decode cX10_oldest 76 = .ok (.iload_n 2, 1) := by decide +kernel
theorem dX10_oldest_77 : decode cX10_oldest 77 = .ok (.iastore, 1) := by decide +kernel
theorem dX10_oldest_78 : decode cX10_oldest 78 = .ok (.iload_n 3, 1) := by decide +kernel
theorem dX10_oldest_79 : decode cX10_oldest 79 = .ok (.ireturn, 1) := by decide +kernel
theorem dX10_twice_0 : decode cX10_twice 0 = .ok (.aload_n 0, 1) := by decide +kernel
theorem dX10_twice_1 : decode cX10_twice 1 = .ok (.iload_n 1, 1) := by decide +kernel
theorem dX10_twice_2 : decode cX10_twice 2 = .ok (.invokevirtual 234, 3) := by decide +kernel
theorem dX10_twice_5 : decode cX10_twice 5 = .ok (.ifCond .eq 11, 3) := by decide +kernel
theorem dX10_twice_8 : decode cX10_twice 8 = .ok (.aload_n 0, 1) := by decide +kernel
theorem dX10_twice_9 : decode cX10_twice 9 = .ok (.iload_n 2, 1) := by decide +kernel
theorem dX10_twice_10 : decode cX10_twice 10 = .ok (.invokevirtual 234, 3) := by decide +kernel
theorem dX10_twice_13 : decode cX10_twice 13 = .ok (.ifCond .ne 10, 3) := by decide +kernel
theorem dX10_twice_16 : decode cX10_twice 16 = .ok (.aload_n 0, 1) := by decide +kernel
theorem dX10_twice_17 : decode cX10_twice 17 = .ok (.bipush (-2), 2) := by decide +kernel
theorem dX10_twice_19 : decode cX10_twice 19 = .ok (.invokevirtual 96, 3) := by decide +kernel
theorem dX10_twice_22 : decode cX10_twice 22 = .ok (.ireturn, 1) := by decide +kernel
theorem dX10_twice_23 : decode cX10_twice 23 = .ok (.aload_n 0, 1) := by decide +kernel
theorem dX10_twice_24 : decode cX10_twice 24 = .ok (.iload_n 1, 1) := by decide +kernel
theorem dX10_twice_25 : decode cX10_twice 25 = .ok (.invokevirtual 117, 3) := by decide +kernel
theorem dX10_twice_28 : decode cX10_twice 28 = .ok (.iconst 0, 1) := by decide +kernel
theorem dX10_twice_29 : decode cX10_twice 29 = .ok (.istore_n 3, 1) := by decide +kernel
theorem dX10_twice_30 : decode cX10_twice 30 = .ok (.iload_n 3, 1) := by decide +kernel
theorem dX10_twice_31 : decode cX10_twice 31 = .ok (.bipush 8, 2) := by decide +kernel
theorem dX10_twice_33 : decode cX10_twice 33 = .ok (.if_icmp .ge 16, 3) := by decide +kernel
theorem dX10_twice_36 : decode cX10_twice 36 = .ok (.aload_n 0, 1) := by decide +kernel
theorem dX10_twice_37 : decode cX10_twice 37 = .ok (.getfield 62, 3) := by decide +kernel
theorem dX10_twice_40 : decode cX10_twice 40 = .ok (.iload_n 3, 1) := by decide +kernel
theorem dX10_twice_41 : decode cX10_twice 41 = .ok (.iconst 0, 1) := by decide +kernel
theorem dX10_twice_42 : decode cX10_twice 42 = .ok (.iastore, 1) := by decide +kernel
theorem dX10_twice_43 : decode cX10_twice 43 = .ok (.iinc 3 1, 3) := by decide +kernel
theorem dX10_twice_46 : decode cX10_twice 46 = .ok (.goto (-16), 3) := by decide +kernel
theorem dX10_twice_49 : decode cX10_twice 49 = .ok (.aload_n 0, 1) := by decide +kernel
theorem dX10_twice_50 : decode cX10_twice 50 = .ok (.iload_n 2, 1) := by decide +kernel
theorem dX10_twice_51 : decode cX10_twice 51 = .ok (.invokevirtual 222, 3) := by decide +kernel
theorem dX10_twice_54 : decode cX10_twice 54 = .ok (.iconst 0, 1) := by decide +kernel
theorem dX10_twice_55 : decode cX10_twice 55 = .ok (.istore_n 3, 1) := by decide +kernel
theorem dX10_twice_56 : decode cX10_twice 56 = .ok (.iload_n 3, 1) := by decide +kernel
theorem dX10_twice_57 : decode cX10_twice 57 = .ok (.aload_n 0, 1) := by decide +kernel
theorem dX10_twice_58 : decode cX10_twice 58 = .ok (.getfield 219, 3) := by decide +kernel
theorem dX10_twice_61 : decode cX10_twice 61 = .ok (.if_icmp .ge 19, 3) := by decide +kernel
theorem dX10_twice_64 : decode cX10_twice 64 = .ok (.aload_n 0, 1) := by decide +kernel
theorem dX10_twice_65 : decode cX10_twice 65 = .ok (.aload_n 0, 1) := by decide +kernel
theorem dX10_twice_66 : decode cX10_twice 66 = .ok (.getfield 59, 3) := by decide +kernel
theorem dX10_twice_69 : decode cX10_twice 69 = .ok (.iload_n 3, 1) := by decide +kernel
theorem dX10_twice_70 : decode cX10_twice 70 = .ok (.iaload, 1) := by decide +kernel
theorem dX10_twice_71 : decode cX10_twice 71 = .ok (.invokevirtual 228, 3) := by decide +kernel
theorem dX10_twice_74 : decode cX10_twice 74 = .ok (.iinc 3 1, 3) := by decide +kernel
theorem dX10_twice_77 : decode cX10_twice 77 = .ok (.goto (-21), 3) := by decide +kernel
theorem dX10_twice_80 : decode cX10_twice 80 = .ok (.aload_n 0, 1) := by decide +kernel
theorem dX10_twice_81 : decode cX10_twice 81 = .ok (.invokevirtual 237, 3) := by decide +kernel
theorem dX10_twice_84 : decode cX10_twice 84 = .ok (.ireturn, 1) := by decide +kernel
theorem dX10_unlike_0 : decode cX10_unlike 0 = .ok (.aload_n 0, 1) := by decide +kernel
theorem dX10_unlike_1 : decode cX10_unlike 1 = .ok (.iload_n 1, 1) := by decide +kernel
theorem dX10_unlike_2 : decode cX10_unlike 2 = .ok (.invokevirtual 234, 3) := by decide +kernel
theorem dX10_unlike_5 : decode cX10_unlike 5 = .ok (.ifCond .ne 10, 3) := by decide +kernel
theorem dX10_unlike_8 : decode cX10_unlike 8 = .ok (.aload_n 0, 1) := by decide +kernel
theorem dX10_unlike_9 : decode cX10_unlike 9 = .ok (.bipush (-2), 2) := by decide +kernel
theorem dX10_unlike_11 : decode cX10_unlike 11 = .ok (.invokevirtual 96, 3) := by decide +kernel
theorem dX10_unlike_14 : decode cX10_unlike 14 = .ok (.ireturn, 1) := by decide +kernel
theorem dX10_unlike_15 : decode cX10_unlike 15 = .ok (.aload_n 0, 1) := by decide +kernel
theorem dX10_unlike_16 : decode cX10_unlike 16 = .ok (.iload_n 1, 1) := by decide +kernel
theorem dX10_unlike_17 : decode cX10_unlike 17 = .ok (.invokevirtual 117, 3) := by decide +kernel
theorem dX10_unlike_20 : decode cX10_unlike 20 = .ok (.iconst 0, 1) := by decide +kernel
theorem dX10_unlike_21 : decode cX10_unlike 21 = .ok (.istore_n 2, 1) := by decide +kernel
theorem dX10_unlike_22 : decode cX10_unlike 22 = .ok (.iconst 0, 1) := by decide +kernel
theorem dX10_unlike_23 : decode cX10_unlike 23 = .ok (.istore_n 3, 1) := by decide +kernel
theorem dX10_unlike_24 : decode cX10_unlike 24 = .ok (.iload_n 3, 1) := by decide +kernel
theorem dX10_unlike_25 : decode cX10_unlike 25 = .ok (.bipush 8, 2) := by decide +kernel
theorem dX10_unlike_27 : decode cX10_unlike 27 = .ok (.if_icmp .ge 20, 3) := by decide +kernel
theorem dX10_unlike_30 : decode cX10_unlike 30 = .ok (.aload_n 0, 1) := by decide +kernel
theorem dX10_unlike_31 : decode cX10_unlike 31 = .ok (.iload_n 3, 1) := by decide +kernel
theorem dX10_unlike_32 : decode cX10_unlike 32 = .ok (.invokevirtual 203, 3) := by decide +kernel
theorem dX10_unlike_35 : decode cX10_unlike 35 = .ok (.ifCond .le 6, 3) := by decide +kernel
theorem dX10_unlike_38 : decode cX10_unlike 38 = .ok (.iinc 2 1, 3) := by decide +kernel
theorem dX10_unlike_41 : decode cX10_unlike 41 = .ok (.iinc 3 1, 3) := by decide +kernel
theorem dX10_unlike_44 : decode cX10_unlike 44 = .ok (.goto (-20), 3) := by decide +kernel
theorem dX10_unlike_47 : decode cX10_unlike 47 = .ok (.iload_n 2, 1) := by decide +kernel
theorem dX10_unlike_48 : decode cX10_unlike 48 = .ok (.ireturn, 1) := by decide +kernel
theorem dX10_places_0 : decode cX10_places 0 = .ok (.iconst 0, 1) := by decide +kernel
theorem dX10_places_1 : decode cX10_places 1 = .ok (.istore_n 1, 1) := by decide +kernel
theorem dX10_places_2 : decode cX10_places 2 = .ok (.iconst 0, 1) := by decide +kernel
theorem dX10_places_3 : decode cX10_places 3 = .ok (.istore_n 2, 1) := by decide +kernel
theorem dX10_places_4 : decode cX10_places 4 = .ok (.iload_n 2, 1) := by decide +kernel
theorem dX10_places_5 : decode cX10_places 5 = .ok (.bipush 12, 2) := by decide +kernel
theorem dX10_places_7 : decode cX10_places 7 = .ok (.if_icmp .ge 25, 3) := by decide +kernel
theorem dX10_places_10 : decode cX10_places 10 = .ok (.aload_n 0, 1) := by decide +kernel
theorem dX10_places_11 : decode cX10_places 11 = .ok (.getfield 9, 3) := by decide +kernel
theorem dX10_places_14 : decode cX10_places 14 = .ok (.iload_n 2, 1) := by decide +kernel
theorem dX10_places_15 : decode cX10_places 15 = .ok (.iaload, 1) := by decide +kernel
theorem dX10_places_16 : decode cX10_places 16 = .ok (.iconst (-1), 1) := by decide +kernel
theorem dX10_places_17 : decode cX10_places 17 = .ok (.if_icmp .eq 9, 3) := by decide +kernel
theorem dX10_places_20 : decode cX10_places 20 = .ok (.iload_n 1, 1) := by decide +kernel
theorem dX10_places_21 : decode cX10_places 21 = .ok (.iconst 1, 1) := by decide +kernel
theorem dX10_places_22 : decode cX10_places 22 = .ok (.iload_n 2, 1) := by decide +kernel
theorem dX10_places_23 : decode cX10_places 23 = .ok (.ishl, 1) := by decide +kernel
theorem dX10_places_24 : decode cX10_places 24 = .ok (.ior, 1) := by decide +kernel
theorem dX10_places_25 : decode cX10_places 25 = .ok (.istore_n 1, 1) := by decide +kernel
theorem dX10_places_26 : decode cX10_places 26 = .ok (.iinc 2 1, 3) := by decide +kernel
theorem dX10_places_29 : decode cX10_places 29 = .ok (.goto (-25), 3) := by decide +kernel
theorem dX10_places_32 : decode cX10_places 32 = .ok (.iload_n 1, 1) := by decide +kernel
theorem dX10_places_33 : decode cX10_places 33 = .ok (.ireturn, 1) := by decide +kernel
theorem dX10_inWindow_0 : decode cX10_inWindow 0 = .ok (.iconst 0, 1) := by decide +kernel
theorem dX10_inWindow_1 : decode cX10_inWindow 1 = .ok (.istore_n 2, 1) := by decide +kernel
theorem dX10_inWindow_2 : decode cX10_inWindow 2 = .ok (.iconst 0, 1) := by decide +kernel
theorem dX10_inWindow_3 : decode cX10_inWindow 3 = .ok (.istore_n 3, 1) := by decide +kernel
theorem dX10_inWindow_4 : decode cX10_inWindow 4 = .ok (.iload_n 3, 1) := by decide +kernel
theorem dX10_inWindow_5 : decode cX10_inWindow 5 = .ok (.bipush 12, 2) := by decide +kernel
theorem dX10_inWindow_7 : decode cX10_inWindow 7 = .ok (.if_icmp .ge 22, 3) := by decide +kernel
theorem dX10_inWindow_10 : decode cX10_inWindow 10 = .ok (.aload_n 0, 1) := by decide +kernel
theorem dX10_inWindow_11 : decode cX10_inWindow 11 = .ok (.getfield 9, 3) := by decide +kernel
theorem dX10_inWindow_14 : decode cX10_inWindow 14 = .ok (.iload_n 3, 1) := by decide +kernel
theorem dX10_inWindow_15 : decode cX10_inWindow 15 = .ok (.iaload, 1) := by decide +kernel
theorem dX10_inWindow_16 : decode cX10_inWindow 16 = .ok (.iload_n 1, 1) := by decide +kernel
theorem dX10_inWindow_17 : decode cX10_inWindow 17 = .ok (.if_icmp .ne 6, 3) := by decide +kernel
theorem dX10_inWindow_20 : decode cX10_inWindow 20 = .ok (.iinc 2 1, 3) := by decide +kernel
theorem dX10_inWindow_23 : decode cX10_inWindow 23 = .ok (.iinc 3 1, 3) := by decide +kernel
theorem dX10_inWindow_26 : decode cX10_inWindow 26 = .ok (.goto (-22), 3) := by decide +kernel
theorem dX10_inWindow_29 : decode cX10_inWindow 29 = .ok (.iload_n 2, 1) := by decide +kernel
theorem dX10_inWindow_30 : decode cX10_inWindow 30 = .ok (.ireturn, 1) := by decide +kernel
theorem dX10_sorts_0 : decode cX10_sorts 0 = .ok (.iload_n 1, 1) := by decide +kernel
theorem dX10_sorts_1 : decode cX10_sorts 1 = .ok (.invokestatic 124, 3) := by decide +kernel
theorem dX10_sorts_4 : decode cX10_sorts 4 = .ok (.ifCond .eq 12, 3) := by decide +kernel
theorem dX10_sorts_7 : decode cX10_sorts 7 = .ok (.iload_n 2, 1) := by decide +kernel
theorem dX10_sorts_8 : decode cX10_sorts 8 = .ok (.iconst 0, 1) := by decide +kernel
theorem dX10_sorts_9 : decode cX10_sorts 9 = .ok (.iconst 2, 1) := by decide +kernel
theorem dX10_sorts_10 : decode cX10_sorts 10 = .ok (.invokestatic 85, 3) := by decide +kernel
theorem dX10_sorts_13 : decode cX10_sorts 13 = .ok (.ifCond .ne 10, 3) := by decide +kernel
theorem dX10_sorts_16 : decode cX10_sorts 16 = .ok (.aload_n 0, 1) := by decide +kernel
theorem dX10_sorts_17 : decode cX10_sorts 17 = .ok (.bipush (-2), 2) := by decide +kernel
theorem dX10_sorts_19 : decode cX10_sorts 19 = .ok (.invokevirtual 96, 3) := by decide +kernel
theorem dX10_sorts_22 : decode cX10_sorts 22 = .ok (.ireturn, 1) := by decide +kernel
theorem dX10_sorts_23 : decode cX10_sorts 23 = .ok (.iload_n 2, 1) := by decide +kernel
theorem dX10_sorts_24 : decode cX10_sorts 24 = .ok (.ifCond .ne 9, 3) := by decide +kernel
theorem dX10_sorts_27 : decode cX10_sorts 27 = .ok (.aload_n 0, 1) := by decide +kernel
theorem dX10_sorts_28 : decode cX10_sorts 28 = .ok (.iload_n 1, 1) := by decide +kernel
theorem dX10_sorts_29 : decode cX10_sorts 29 = .ok (.invokevirtual 272, 3) := by decide +kernel
theorem dX10_sorts_32 : decode cX10_sorts 32 = .ok (.ireturn, 1) := by decide +kernel
theorem dX10_sorts_33 : decode cX10_sorts 33 = .ok (.iconst 0, 1) := by decide +kernel
theorem dX10_sorts_34 : decode cX10_sorts 34 = .ok (.istore_n 3, 1) := by decide +kernel
theorem dX10_sorts_35 : decode cX10_sorts 35 = .ok (.iconst 0, 1) := by decide +kernel
theorem dX10_sorts_36 : decode cX10_sorts 36 = .ok (.istore 4, 2) := by decide +kernel
theorem dX10_sorts_38 : decode cX10_sorts 38 = .ok (.iload 4, 2) := by decide +kernel
theorem dX10_sorts_40 : decode cX10_sorts 40 = .ok (.aload_n 0, 1) := by decide +kernel
theorem dX10_sorts_41 : decode cX10_sorts 41 = .ok (.getfield 89, 3) := by decide +kernel
theorem dX10_sorts_44 : decode cX10_sorts 44 = .ok (.if_icmp .ge 41, 3) := by decide +kernel
theorem dX10_sorts_47 : decode cX10_sorts 47 = .ok (.iload_n 2, 1) := by decide +kernel
theorem dX10_sorts_48 : decode cX10_sorts 48 = .ok (.iconst 1, 1) := by decide +kernel
theorem dX10_sorts_49 : decode cX10_sorts 49 = .ok (.if_icmp .ne 16, 3) := by decide +kernel
theorem dX10_sorts_52 : decode cX10_sorts 52 = .ok (.aload_n 0, 1) := by decide +kernel
theorem dX10_sorts_53 : decode cX10_sorts 53 = .ok (.iload 4, 2) := by decide +kernel
theorem dX10_sorts_55 : decode cX10_sorts 55 = .ok (.iload_n 1, 1) := by decide +kernel
theorem dX10_sorts_56 : decode cX10_sorts 56 = .ok (.invokevirtual 200, 3) := by decide +kernel
theorem dX10_sorts_59 : decode cX10_sorts 59 = .ok (.ifCond .eq 20, 3) := by decide +kernel
theorem dX10_sorts_62 : decode cX10_sorts 62 = .ok (.goto 14, 3) := by decide +kernel
theorem dX10_sorts_65 : decode cX10_sorts 65 = .ok (.aload_n 0, 1) := by decide +kernel
theorem dX10_sorts_66 : decode cX10_sorts 66 = .ok (.getfield 16, 3) := by decide +kernel
theorem dX10_sorts_69 : decode cX10_sorts 69 = .ok (.iload 4, 2) := by decide +kernel
theorem dX10_sorts_71 : decode cX10_sorts 71 = .ok (.iaload, 1) := by decide +kernel
theorem dX10_sorts_72 : decode cX10_sorts 72 = .ok (.iload_n 1, 1) := by decide +kernel
theorem dX10_sorts_73 : decode cX10_sorts 73 = .ok (.if_icmp .ne 6, 3) := by decide +kernel
theorem dX10_sorts_76 : decode cX10_sorts 76 = .ok (.iinc 3 1, 3) := by decide +kernel
theorem dX10_sorts_79 : decode cX10_sorts 79 = .ok (.iinc 4 1, 3) := by decide +kernel
theorem dX10_sorts_82 : decode cX10_sorts 82 = .ok (.goto (-44), 3) := by decide +kernel
theorem dX10_sorts_85 : decode cX10_sorts 85 = .ok (.iload_n 3, 1) := by decide +kernel
theorem dX10_sorts_86 : decode cX10_sorts 86 = .ok (.ireturn, 1) := by decide +kernel
theorem dX10_rare_0 : decode cX10_rare 0 = .ok (.iload_n 1, 1) := by decide +kernel
theorem dX10_rare_1 : decode cX10_rare 1 = .ok (.iconst 0, 1) := by decide +kernel
theorem dX10_rare_2 : decode cX10_rare 2 = .ok (.iconst 1, 1) := by decide +kernel
theorem dX10_rare_3 : decode cX10_rare 3 = .ok (.invokestatic 85, 3) := by decide +kernel
theorem dX10_rare_6 : decode cX10_rare 6 = .ok (.ifCond .ne 10, 3) := by decide +kernel
theorem dX10_rare_9 : decode cX10_rare 9 = .ok (.aload_n 0, 1) := by decide +kernel
theorem dX10_rare_10 : decode cX10_rare 10 = .ok (.bipush (-2), 2) := by decide +kernel
theorem dX10_rare_12 : decode cX10_rare 12 = .ok (.invokevirtual 96, 3) := by decide +kernel
theorem dX10_rare_15 : decode cX10_rare 15 = .ok (.ireturn, 1) := by decide +kernel
theorem dX10_rare_16 : decode cX10_rare 16 = .ok (.iconst (-1), 1) := by decide +kernel
theorem dX10_rare_17 : decode cX10_rare 17 = .ok (.istore_n 2, 1) := by decide +kernel
theorem dX10_rare_18 : decode cX10_rare 18 = .ok (.iconst 0, 1) := by decide +kernel
theorem dX10_rare_19 : decode cX10_rare 19 = .ok (.istore_n 3, 1) := by decide +kernel
theorem dX10_rare_20 : decode cX10_rare 20 = .ok (.iload_n 3, 1) := by decide +kernel
theorem dX10_rare_21 : decode cX10_rare 21 = .ok (.bipush 8, 2) := by decide +kernel
theorem dX10_rare_23 : decode cX10_rare 23 = .ok (.if_icmp .ge 55, 3) := by decide +kernel
theorem dX10_rare_26 : decode cX10_rare 26 = .ok (.aload_n 0, 1) := by decide +kernel
theorem dX10_rare_27 : decode cX10_rare 27 = .ok (.iload_n 3, 1) := by decide +kernel
theorem dX10_rare_28 : decode cX10_rare 28 = .ok (.invokevirtual 272, 3) := by decide +kernel
theorem dX10_rare_31 : decode cX10_rare 31 = .ok (.istore 4, 2) := by decide +kernel
theorem dX10_rare_33 : decode cX10_rare 33 = .ok (.iload 4, 2) := by decide +kernel
theorem dX10_rare_35 : decode cX10_rare 35 = .ok (.ifCond .le 37, 3) := by decide +kernel
theorem dX10_rare_38 : decode cX10_rare 38 = .ok (.iload_n 2, 1) := by decide +kernel
theorem dX10_rare_39 : decode cX10_rare 39 = .ok (.iconst (-1), 1) := by decide +kernel
theorem dX10_rare_40 : decode cX10_rare 40 = .ok (.if_icmp .eq 30, 3) := by decide +kernel
theorem dX10_rare_43 : decode cX10_rare 43 = .ok (.iload_n 1, 1) := by decide +kernel
theorem dX10_rare_44 : decode cX10_rare 44 = .ok (.ifCond .ne 16, 3) := by decide +kernel
theorem dX10_rare_47 : decode cX10_rare 47 = .ok (.iload 4, 2) := by decide +kernel
theorem dX10_rare_49 : decode cX10_rare 49 = .ok (.aload_n 0, 1) := by decide +kernel
theorem dX10_rare_50 : decode cX10_rare 50 = .ok (.iload_n 2, 1) := by decide +kernel
theorem dX10_rare_51 : decode cX10_rare 51 = .ok (.invokevirtual 272, 3) := by decide +kernel
theorem dX10_rare_54 : decode cX10_rare 54 = .ok (.if_icmp .ge 18, 3) := by decide +kernel
theorem dX10_rare_57 : decode cX10_rare 57 = .ok (.goto 13, 3) := by decide +kernel
theorem dX10_rare_60 : decode cX10_rare 60 = .ok (.iload 4, 2) := by decide +kernel
theorem dX10_rare_62 : decode cX10_rare 62 = .ok (.aload_n 0, 1) := by decide +kernel
theorem dX10_rare_63 : decode cX10_rare 63 = .ok (.iload_n 2, 1) := by decide +kernel
theorem dX10_rare_64 : decode cX10_rare 64 = .ok (.invokevirtual 272, 3) := by decide +kernel
theorem dX10_rare_67 : decode cX10_rare 67 = .ok (.if_icmp .le 5, 3) := by decide +kernel
theorem dX10_rare_70 : decode cX10_rare 70 = .ok (.iload_n 3, 1) := by decide +kernel
theorem dX10_rare_71 : decode cX10_rare 71 = .ok (.istore_n 2, 1) := by decide +kernel
theorem dX10_rare_72 : decode cX10_rare 72 = .ok (.iinc 3 1, 3) := by decide +kernel
theorem dX10_rare_75 : decode cX10_rare 75 = .ok (.goto (-55), 3) := by decide +kernel
theorem dX10_rare_78 : decode cX10_rare 78 = .ok (.iload_n 2, 1) := by decide +kernel
theorem dX10_rare_79 : decode cX10_rare 79 = .ok (.iconst (-1), 1) := by decide +kernel
theorem dX10_rare_80 : decode cX10_rare 80 = .ok (.if_icmp .ne 12, 3) := by decide +kernel
theorem dX10_rare_83 : decode cX10_rare 83 = .ok (.aload_n 0, 1) := by decide +kernel
theorem dX10_rare_84 : decode cX10_rare 84 = .ok (.bipush (-5), 2) := by decide +kernel
theorem dX10_rare_86 : decode cX10_rare 86 = .ok (.invokevirtual 96, 3) := by decide +kernel
theorem dX10_rare_89 : decode cX10_rare 89 = .ok (.goto 4, 3) := by decide +kernel
theorem dX10_rare_92 : decode cX10_rare 92 = .ok (.iload_n 2, 1) := by decide +kernel
theorem dX10_rare_93 : decode cX10_rare 93 = .ok (.ireturn, 1) := by decide +kernel
theorem dX10_rank_0 : decode cX10_rank 0 = .ok (.iload_n 2, 1) := by decide +kernel
theorem dX10_rank_1 : decode cX10_rank 1 = .ok (.iconst 2, 1) := by decide +kernel
theorem dX10_rank_2 : decode cX10_rank 2 = .ok (.if_icmp .ge 24, 3) := by decide +kernel
theorem dX10_rank_5 : decode cX10_rank 5 = .ok (.iload_n 2, 1) := by decide +kernel
theorem dX10_rank_6 : decode cX10_rank 6 = .ok (.ifCond .ne 13, 3) := by decide +kernel
theorem dX10_rank_9 : decode cX10_rank 9 = .ok (.aload_n 0, 1) := by decide +kernel
theorem dX10_rank_10 : decode cX10_rank 10 = .ok (.getfield 19, 3) := by decide +kernel
theorem dX10_rank_13 : decode cX10_rank 13 = .ok (.iload_n 1, 1) := by decide +kernel
theorem dX10_rank_14 : decode cX10_rank 14 = .ok (.iaload, 1) := by decide +kernel
theorem dX10_rank_15 : decode cX10_rank 15 = .ok (.ineg, 1) := by decide +kernel
theorem dX10_rank_16 : decode cX10_rank 16 = .ok (.goto 9, 3) := by decide +kernel
theorem dX10_rank_19 : decode cX10_rank 19 = .ok (.aload_n 0, 1) := by decide +kernel
theorem dX10_rank_20 : decode cX10_rank 20 = .ok (.getfield 19, 3) := by decide +kernel
theorem dX10_rank_23 : decode cX10_rank 23 = .ok (.iload_n 1, 1) := by decide +kernel
theorem dX10_rank_24 : decode cX10_rank 24 = .ok (.iaload, 1) := by decide +kernel
theorem dX10_rank_25 : decode cX10_rank 25 = .ok (.ireturn, 1) := by decide +kernel
theorem dX10_rank_26 : decode cX10_rank 26 = .ok (.iconst 0, 1) := by decide +kernel
theorem dX10_rank_27 : decode cX10_rank 27 = .ok (.istore_n 3, 1) := by decide +kernel
theorem dX10_rank_28 : decode cX10_rank 28 = .ok (.iconst 0, 1) := by decide +kernel
theorem dX10_rank_29 : decode cX10_rank 29 = .ok (.istore 4, 2) := by decide +kernel
theorem dX10_rank_31 : decode cX10_rank 31 = .ok (.iload 4, 2) := by decide +kernel
theorem dX10_rank_33 : decode cX10_rank 33 = .ok (.bipush 8, 2) := by decide +kernel
theorem dX10_rank_35 : decode cX10_rank 35 = .ok (.if_icmp .ge 24, 3) := by decide +kernel
theorem dX10_rank_38 : decode cX10_rank 38 = .ok (.iload_n 3, 1) := by decide +kernel
theorem dX10_rank_39 : decode cX10_rank 39 = .ok (.aload_n 0, 1) := by decide +kernel
theorem dX10_rank_40 : decode cX10_rank 40 = .ok (.getfield 31, 3) := by decide +kernel
theorem dX10_rank_43 : decode cX10_rank 43 = .ok (.bipush 8, 2) := by decide +kernel
theorem dX10_rank_45 : decode cX10_rank 45 = .ok (.iload_n 1, 1) := by decide +kernel
theorem dX10_rank_46 : decode cX10_rank 46 = .ok (.imul, 1) := by decide +kernel
theorem dX10_rank_47 : decode cX10_rank 47 = .ok (.iload 4, 2) := by decide +kernel
theorem dX10_rank_49 : decode cX10_rank 49 = .ok (.iadd, 1) := by decide +kernel
theorem dX10_rank_50 : decode cX10_rank 50 = .ok (.iaload, 1) := by decide +kernel
theorem dX10_rank_51 : decode cX10_rank 51 = .ok (.iadd, 1) := by decide +kernel
theorem dX10_rank_52 : decode cX10_rank 52 = .ok (.istore_n 3, 1) := by decide +kernel
theorem dX10_rank_53 : decode cX10_rank 53 = .ok (.iinc 4 1, 3) := by decide +kernel
theorem dX10_rank_56 : decode cX10_rank 56 = .ok (.goto (-25), 3) := by decide +kernel
theorem dX10_rank_59 : decode cX10_rank 59 = .ok (.iload_n 3, 1) := by decide +kernel
theorem dX10_rank_60 : decode cX10_rank 60 = .ok (.ireturn, 1) := by decide +kernel
theorem dX10_first_0 : decode cX10_first 0 = .ok (.iload_n 1, 1) := by decide +kernel
theorem dX10_first_1 : decode cX10_first 1 = .ok (.iconst 0, 1) := by decide +kernel
theorem dX10_first_2 : decode cX10_first 2 = .ok (.iconst 2, 1) := by decide +kernel
theorem dX10_first_3 : decode cX10_first 3 = .ok (.invokestatic 85, 3) := by decide +kernel
theorem dX10_first_6 : decode cX10_first 6 = .ok (.ifCond .ne 10, 3) := by decide +kernel
theorem dX10_first_9 : decode cX10_first 9 = .ok (.aload_n 0, 1) := by decide +kernel
theorem dX10_first_10 : decode cX10_first 10 = .ok (.bipush (-2), 2) := by decide +kernel
theorem dX10_first_12 : decode cX10_first 12 = .ok (.invokevirtual 96, 3) := by decide +kernel
theorem dX10_first_15 : decode cX10_first 15 = .ok (.ireturn, 1) := by decide +kernel
theorem dX10_first_16 : decode cX10_first 16 = .ok (.iconst (-1), 1) := by decide +kernel
theorem dX10_first_17 : decode cX10_first 17 = .ok (.istore_n 2, 1) := by decide +kernel
theorem dX10_first_18 : decode cX10_first 18 = .ok (.iconst 0, 1) := by decide +kernel
theorem dX10_first_19 : decode cX10_first 19 = .ok (.istore_n 3, 1) := by decide +kernel
theorem dX10_first_20 : decode cX10_first 20 = .ok (.iload_n 3, 1) := by decide +kernel
theorem dX10_first_21 : decode cX10_first 21 = .ok (.aload_n 0, 1) := by decide +kernel
theorem dX10_first_22 : decode cX10_first 22 = .ok (.getfield 89, 3) := by decide +kernel
theorem dX10_first_25 : decode cX10_first 25 = .ok (.if_icmp .ge 31, 3) := by decide +kernel
theorem dX10_first_28 : decode cX10_first 28 = .ok (.iload_n 2, 1) := by decide +kernel
theorem dX10_first_29 : decode cX10_first 29 = .ok (.iconst (-1), 1) := by decide +kernel
theorem dX10_first_30 : decode cX10_first 30 = .ok (.if_icmp .eq 18, 3) := by decide +kernel
theorem dX10_first_33 : decode cX10_first 33 = .ok (.aload_n 0, 1) := by decide +kernel
theorem dX10_first_34 : decode cX10_first 34 = .ok (.iload_n 3, 1) := by decide +kernel
theorem dX10_first_35 : decode cX10_first 35 = .ok (.iload_n 1, 1) := by decide +kernel
theorem dX10_first_36 : decode cX10_first 36 = .ok (.invokevirtual 275, 3) := by decide +kernel
theorem dX10_first_39 : decode cX10_first 39 = .ok (.aload_n 0, 1) := by decide +kernel
theorem dX10_first_40 : decode cX10_first 40 = .ok (.iload_n 2, 1) := by decide +kernel
theorem dX10_first_41 : decode cX10_first 41 = .ok (.iload_n 1, 1) := by decide +kernel
theorem dX10_first_42 : decode cX10_first 42 = .ok (.invokevirtual 275, 3) := by decide +kernel
theorem dX10_first_45 : decode cX10_first 45 = .ok (.if_icmp .le 5, 3) := by decide +kernel
theorem dX10_first_48 : decode cX10_first 48 = .ok (.iload_n 3, 1) := by decide +kernel
theorem dX10_first_49 : decode cX10_first 49 = .ok (.istore_n 2, 1) := by decide +kernel
theorem dX10_first_50 : decode cX10_first 50 = .ok (.iinc 3 1, 3) := by decide +kernel
theorem dX10_first_53 : decode cX10_first 53 = .ok (.goto (-33), 3) := by decide +kernel
theorem dX10_first_56 : decode cX10_first 56 = .ok (.iload_n 2, 1) := by decide +kernel
theorem dX10_first_57 : decode cX10_first 57 = .ok (.iconst (-1), 1) := by decide +kernel
theorem dX10_first_58 : decode cX10_first 58 = .ok (.if_icmp .ne 12, 3) := by decide +kernel
theorem dX10_first_61 : decode cX10_first 61 = .ok (.aload_n 0, 1) := by decide +kernel
theorem dX10_first_62 : decode cX10_first 62 = .ok (.bipush (-5), 2) := by decide +kernel
theorem dX10_first_64 : decode cX10_first 64 = .ok (.invokevirtual 96, 3) := by decide +kernel
theorem dX10_first_67 : decode cX10_first 67 = .ok (.goto 4, 3) := by decide +kernel
theorem dX10_first_70 : decode cX10_first 70 = .ok (.iload_n 2, 1) := by decide +kernel
theorem dX10_first_71 : decode cX10_first 71 = .ok (.ireturn, 1) := by decide +kernel
theorem dX10_bringer_0 : decode cX10_bringer 0 = .ok (.iconst 0, 1) := by decide +kernel
theorem dX10_bringer_1 : decode cX10_bringer 1 = .ok (.istore_n 2, 1) := by decide +kernel
theorem dX10_bringer_2 : decode cX10_bringer 2 = .ok (.iload_n 2, 1) := by decide +kernel
theorem dX10_bringer_3 : decode cX10_bringer 3 = .ok (.aload_n 0, 1) := by decide +kernel
theorem dX10_bringer_4 : decode cX10_bringer 4 = .ok (.getfield 89, 3) := by decide +kernel
theorem dX10_bringer_7 : decode cX10_bringer 7 = .ok (.if_icmp .ge 30, 3) := by decide +kernel
theorem dX10_bringer_10 : decode cX10_bringer 10 = .ok (.aload_n 0, 1) := by decide +kernel
theorem dX10_bringer_11 : decode cX10_bringer 11 = .ok (.getfield 71, 3) := by decide +kernel
theorem dX10_bringer_14 : decode cX10_bringer 14 = .ok (.iload_n 2, 1) := by decide +kernel
theorem dX10_bringer_15 : decode cX10_bringer 15 = .ok (.baload, 1) := by decide +kernel
theorem dX10_bringer_16 : decode cX10_bringer 16 = .ok (.ifCond .ne 15, 3) := by decide +kernel
theorem dX10_bringer_19 : decode cX10_bringer 19 = .ok (.aload_n 0, 1) := by decide +kernel
theorem dX10_bringer_20 : decode cX10_bringer 20 = .ok (.getfield 28, 3) := by decide +kernel
theorem dX10_bringer_23 : decode cX10_bringer 23 = .ok (.iload_n 2, 1) := by decide +kernel
theorem dX10_bringer_24 : decode cX10_bringer 24 = .ok (.iaload, 1) := by decide +kernel
theorem dX10_bringer_25 : decode cX10_bringer 25 = .ok (.iload_n 1, 1) := by decide +kernel
theorem dX10_bringer_26 : decode cX10_bringer 26 = .ok (.if_icmp .ne 5, 3) := by decide +kernel
theorem dX10_bringer_29 : decode cX10_bringer 29 = .ok (.iload_n 2, 1) := by decide +kernel
theorem dX10_bringer_30 : decode cX10_bringer 30 = .ok (.ireturn, 1) := by decide +kernel
theorem dX10_bringer_31 : decode cX10_bringer 31 = .ok (.iinc 2 1, 3) := by decide +kernel
theorem dX10_bringer_34 : decode cX10_bringer 34 = .ok (.goto (-32), 3) := by decide +kernel
theorem dX10_bringer_37 : decode cX10_bringer 37 = .ok (.iconst (-1), 1) := by decide +kernel
theorem dX10_bringer_38 : decode cX10_bringer 38 = .ok (.ireturn, 1) := by decide +kernel
theorem dX10_wishOf_0 : decode cX10_wishOf 0 = .ok (.aload_n 0, 1) := by decide +kernel
theorem dX10_wishOf_1 : decode cX10_wishOf 1 = .ok (.aload_n 0, 1) := by decide +kernel
theorem dX10_wishOf_2 : decode cX10_wishOf 2 = .ok (.getfield 16, 3) := by decide +kernel
theorem dX10_wishOf_5 : decode cX10_wishOf 5 = .ok (.iload_n 1, 1) := by decide +kernel
theorem dX10_wishOf_6 : decode cX10_wishOf 6 = .ok (.iaload, 1) := by decide +kernel
theorem dX10_wishOf_7 : decode cX10_wishOf 7 = .ok (.invokevirtual 278, 3) := by decide +kernel
theorem dX10_wishOf_10 : decode cX10_wishOf 10 = .ok (.istore_n 2, 1) := by decide +kernel
theorem dX10_wishOf_11 : decode cX10_wishOf 11 = .ok (.iconst 0, 1) := by decide +kernel
theorem dX10_wishOf_12 : decode cX10_wishOf 12 = .ok (.istore_n 3, 1) := by decide +kernel
theorem dX10_wishOf_13 : decode cX10_wishOf 13 = .ok (.iload_n 3, 1) := by decide +kernel
theorem dX10_wishOf_14 : decode cX10_wishOf 14 = .ok (.bipush 8, 2) := by decide +kernel
theorem dX10_wishOf_16 : decode cX10_wishOf 16 = .ok (.if_icmp .ge 33, 3) := by decide +kernel
theorem dX10_wishOf_19 : decode cX10_wishOf 19 = .ok (.iload_n 2, 1) := by decide +kernel
theorem dX10_wishOf_20 : decode cX10_wishOf 20 = .ok (.iconst (-1), 1) := by decide +kernel
theorem dX10_wishOf_21 : decode cX10_wishOf 21 = .ok (.if_icmp .ne 28, 3) := by decide +kernel
theorem dX10_wishOf_24 : decode cX10_wishOf 24 = .ok (.aload_n 0, 1) := by decide +kernel
theorem dX10_wishOf_25 : decode cX10_wishOf 25 = .ok (.getfield 22, 3) := by decide +kernel
theorem dX10_wishOf_28 : decode cX10_wishOf 28 = .ok (.iload_n 1, 1) := by decide +kernel
theorem dX10_wishOf_29 : decode cX10_wishOf 29 = .ok (.iaload, 1) := by decide +kernel
theorem dX10_wishOf_30 : decode cX10_wishOf 30 = .ok (.iload_n 3, 1) := by decide +kernel
theorem dX10_wishOf_31 : decode cX10_wishOf 31 = .ok (.invokestatic 194, 3) := by decide +kernel
theorem dX10_wishOf_34 : decode cX10_wishOf 34 = .ok (.ifCond .eq 9, 3) := by decide +kernel
theorem dX10_wishOf_37 : decode cX10_wishOf 37 = .ok (.aload_n 0, 1) := by decide +kernel
theorem dX10_wishOf_38 : decode cX10_wishOf 38 = .ok (.iload_n 3, 1) := by decide +kernel
theorem dX10_wishOf_39 : decode cX10_wishOf 39 = .ok (.invokevirtual 278, 3) := by decide +kernel
theorem dX10_wishOf_42 : decode cX10_wishOf 42 = .ok (.istore_n 2, 1) := by decide +kernel
theorem dX10_wishOf_43 : decode cX10_wishOf 43 = .ok (.iinc 3 1, 3) := by decide +kernel
theorem dX10_wishOf_46 : decode cX10_wishOf 46 = .ok (.goto (-33), 3) := by decide +kernel
theorem dX10_wishOf_49 : decode cX10_wishOf 49 = .ok (.iload_n 2, 1) := by decide +kernel
theorem dX10_wishOf_50 : decode cX10_wishOf 50 = .ok (.iconst (-1), 1) := by decide +kernel
theorem dX10_wishOf_51 : decode cX10_wishOf 51 = .ok (.if_icmp .ne 7, 3) := by decide +kernel
theorem dX10_wishOf_54 : decode cX10_wishOf 54 = .ok (.iload_n 1, 1) := by decide +kernel
theorem dX10_wishOf_55 : decode cX10_wishOf 55 = .ok (.goto 4, 3) := by decide +kernel
theorem dX10_wishOf_58 : decode cX10_wishOf 58 = .ok (.iload_n 2, 1) := by decide +kernel
theorem dX10_wishOf_59 : decode cX10_wishOf 59 = .ok (.ireturn, 1) := by decide +kernel
theorem dX10_isRing_0 : decode cX10_isRing 0 = .ok (.aload_n 0, 1) := by decide +kernel
theorem dX10_isRing_1 : decode cX10_isRing 1 = .ok (.getfield 68, 3) := by decide +kernel
theorem dX10_isRing_4 : decode cX10_isRing 4 = .ok (.iload_n 1, 1) := by decide +kernel
theorem dX10_isRing_5 : decode cX10_isRing 5 = .ok (.iaload, 1) := by decide +kernel
theorem dX10_isRing_6 : decode cX10_isRing 6 = .ok (.istore_n 2, 1) := by decide +kernel
theorem dX10_isRing_7 : decode cX10_isRing 7 = .ok (.iconst 0, 1) := by decide +kernel
theorem dX10_isRing_8 : decode cX10_isRing 8 = .ok (.istore_n 3, 1) := by decide +kernel
theorem dX10_isRing_9 : decode cX10_isRing 9 = .ok (.iload_n 3, 1) := by decide +kernel
theorem dX10_isRing_10 : decode cX10_isRing 10 = .ok (.aload_n 0, 1) := by decide +kernel
theorem dX10_isRing_11 : decode cX10_isRing 11 = .ok (.getfield 89, 3) := by decide +kernel
theorem dX10_isRing_14 : decode cX10_isRing 14 = .ok (.if_icmp .ge 21, 3) := by decide +kernel
theorem dX10_isRing_17 : decode cX10_isRing 17 = .ok (.iload_n 2, 1) := by decide +kernel
theorem dX10_isRing_18 : decode cX10_isRing 18 = .ok (.iload_n 1, 1) := by decide +kernel
theorem dX10_isRing_19 : decode cX10_isRing 19 = .ok (.if_icmp .eq 16, 3) := by decide +kernel
theorem dX10_isRing_22 : decode cX10_isRing 22 = .ok (.aload_n 0, 1) := by decide +kernel
theorem dX10_isRing_23 : decode cX10_isRing 23 = .ok (.getfield 68, 3) := by decide +kernel
theorem dX10_isRing_26 : decode cX10_isRing 26 = .ok (.iload_n 2, 1) := by decide +kernel
theorem dX10_isRing_27 : decode cX10_isRing 27 = .ok (.iaload, 1) := by decide +kernel
theorem dX10_isRing_28 : decode cX10_isRing 28 = .ok (.istore_n 2, 1) := by decide +kernel
theorem dX10_isRing_29 : decode cX10_isRing 29 = .ok (.iinc 3 1, 3) := by decide +kernel
theorem dX10_isRing_32 : decode cX10_isRing 32 = .ok (.goto (-23), 3) := by decide +kernel
theorem dX10_isRing_35 : decode cX10_isRing 35 = .ok (.iload_n 2, 1) := by decide +kernel
theorem dX10_isRing_36 : decode cX10_isRing 36 = .ok (.iload_n 1, 1) := by decide +kernel
theorem dX10_isRing_37 : decode cX10_isRing 37 = .ok (.if_icmp .ne 7, 3) := by decide +kernel
theorem dX10_isRing_40 : decode cX10_isRing 40 = .ok (.iconst 1, 1) := by decide +kernel
theorem dX10_isRing_41 : decode cX10_isRing 41 = .ok (.goto 4, 3) := by decide +kernel
theorem dX10_isRing_44 : decode cX10_isRing 44 = .ok (.iconst 0, 1) := by decide +kernel
theorem dX10_isRing_45 : decode cX10_isRing 45 = .ok (.ireturn, 1) := by decide +kernel
theorem dX10_swaps_0 : decode cX10_swaps 0 = .ok (.iconst 0, 1) := by decide +kernel
theorem dX10_swaps_1 : decode cX10_swaps 1 = .ok (.istore_n 1, 1) := by decide +kernel
theorem dX10_swaps_2 : decode cX10_swaps 2 = .ok (.iconst 0, 1) := by decide +kernel
theorem dX10_swaps_3 : decode cX10_swaps 3 = .ok (.istore_n 2, 1) := by decide +kernel
theorem dX10_swaps_4 : decode cX10_swaps 4 = .ok (.iload_n 2, 1) := by decide +kernel
theorem dX10_swaps_5 : decode cX10_swaps 5 = .ok (.aload_n 0, 1) := by decide +kernel
theorem dX10_swaps_6 : decode cX10_swaps 6 = .ok (.getfield 89, 3) := by decide +kernel
theorem dX10_swaps_9 : decode cX10_swaps 9 = .ok (.if_icmp .ge 49, 3) := by decide +kernel
theorem dX10_swaps_12 : decode cX10_swaps 12 = .ok (.aload_n 0, 1) := by decide +kernel
theorem dX10_swaps_13 : decode cX10_swaps 13 = .ok (.getfield 71, 3) := by decide +kernel
theorem dX10_swaps_16 : decode cX10_swaps 16 = .ok (.iload_n 2, 1) := by decide +kernel
theorem dX10_swaps_17 : decode cX10_swaps 17 = .ok (.aload_n 0, 1) := by decide +kernel
theorem dX10_swaps_18 : decode cX10_swaps 18 = .ok (.getfield 28, 3) := by decide +kernel
theorem dX10_swaps_21 : decode cX10_swaps 21 = .ok (.iload_n 2, 1) := by decide +kernel
theorem dX10_swaps_22 : decode cX10_swaps 22 = .ok (.iaload, 1) := by decide +kernel
theorem dX10_swaps_23 : decode cX10_swaps 23 = .ok (.iconst (-1), 1) := by decide +kernel
theorem dX10_swaps_24 : decode cX10_swaps 24 = .ok (.if_icmp .ne 7, 3) := by decide +kernel
theorem dX10_swaps_27 : decode cX10_swaps 27 = .ok (.iconst 1, 1) := by decide +kernel
theorem dX10_swaps_28 : decode cX10_swaps 28 = .ok (.goto 4, 3) := by decide +kernel
theorem dX10_swaps_31 : decode cX10_swaps 31 = .ok (.iconst 0, 1) := by decide +kernel
theorem dX10_swaps_32 : decode cX10_swaps 32 = .ok (.bastore, 1) := by decide +kernel
theorem dX10_swaps_33 : decode cX10_swaps 33 = .ok (.aload_n 0, 1) := by decide +kernel
theorem dX10_swaps_34 : decode cX10_swaps 34 = .ok (.getfield 75, 3) := by decide +kernel
theorem dX10_swaps_37 : decode cX10_swaps 37 = .ok (.iload_n 2, 1) := by decide +kernel
theorem dX10_swaps_38 : decode cX10_swaps 38 = .ok (.iconst (-1), 1) := by decide +kernel
theorem dX10_swaps_39 : decode cX10_swaps 39 = .ok (.iastore, 1) := by decide +kernel
theorem dX10_swaps_40 : decode cX10_swaps 40 = .ok (.aload_n 0, 1) := by decide +kernel
theorem dX10_swaps_41 : decode cX10_swaps 41 = .ok (.getfield 71, 3) := by decide +kernel
theorem dX10_swaps_44 : decode cX10_swaps 44 = .ok (.iload_n 2, 1) := by decide +kernel
theorem dX10_swaps_45 : decode cX10_swaps 45 = .ok (.baload, 1) := by decide +kernel
theorem dX10_swaps_46 : decode cX10_swaps 46 = .ok (.ifCond .ne 6, 3) := by decide +kernel
theorem dX10_swaps_49 : decode cX10_swaps 49 = .ok (.iinc 1 1, 3) := by decide +kernel
theorem dX10_swaps_52 : decode cX10_swaps 52 = .ok (.iinc 2 1, 3) := by decide +kernel
theorem dX10_swaps_55 : decode cX10_swaps 55 = .ok (.goto (-51), 3) := by decide +kernel
theorem dX10_swaps_58 : decode cX10_swaps 58 = .ok (.iload_n 1, 1) := by decide +kernel
theorem dX10_swaps_59 : decode cX10_swaps 59 = .ok (.ifCond .le 137, 3) := by decide +kernel
theorem dX10_swaps_62 : decode cX10_swaps 62 = .ok (.iconst 0, 1) := by decide +kernel
theorem dX10_swaps_63 : decode cX10_swaps 63 = .ok (.istore_n 2, 1) := by decide +kernel
theorem dX10_swaps_64 : decode cX10_swaps 64 = .ok (.iload_n 2, 1) := by decide +kernel
theorem dX10_swaps_65 : decode cX10_swaps 65 = .ok (.aload_n 0, 1) := by decide +kernel
theorem dX10_swaps_66 : decode cX10_swaps 66 = .ok (.getfield 89, 3) := by decide +kernel
theorem dX10_swaps_69 : decode cX10_swaps 69 = .ok (.if_icmp .ge 29, 3) := by decide +kernel
theorem dX10_swaps_72 : decode cX10_swaps 72 = .ok (.aload_n 0, 1) := by decide +kernel
theorem dX10_swaps_73 : decode cX10_swaps 73 = .ok (.getfield 71, 3) := by decide +kernel
theorem dX10_swaps_76 : decode cX10_swaps 76 = .ok (.iload_n 2, 1) := by decide +kernel
theorem dX10_swaps_77 : decode cX10_swaps 77 = .ok (.baload, 1) := by decide +kernel
theorem dX10_swaps_78 : decode cX10_swaps 78 = .ok (.ifCond .ne 14, 3) := by decide +kernel
theorem dX10_swaps_81 : decode cX10_swaps 81 = .ok (.aload_n 0, 1) := by decide +kernel
theorem dX10_swaps_82 : decode cX10_swaps 82 = .ok (.getfield 68, 3) := by decide +kernel
theorem dX10_swaps_85 : decode cX10_swaps 85 = .ok (.iload_n 2, 1) := by decide +kernel
theorem dX10_swaps_86 : decode cX10_swaps 86 = .ok (.aload_n 0, 1) := by decide +kernel
theorem dX10_swaps_87 : decode cX10_swaps 87 = .ok (.iload_n 2, 1) := by decide +kernel
theorem dX10_swaps_88 : decode cX10_swaps 88 = .ok (.invokevirtual 281, 3) := by decide +kernel
theorem dX10_swaps_91 : decode cX10_swaps 91 = .ok (.iastore, 1) := by decide +kernel
theorem dX10_swaps_92 : decode cX10_swaps 92 = .ok (.iinc 2 1, 3) := by decide +kernel
theorem dX10_swaps_95 : decode cX10_swaps 95 = .ok (.goto (-31), 3) := by decide +kernel
theorem dX10_swaps_98 : decode cX10_swaps 98 = .ok (.iconst 0, 1) := by decide +kernel
theorem dX10_swaps_99 : decode cX10_swaps 99 = .ok (.istore_n 2, 1) := by decide +kernel
theorem dX10_swaps_100 : decode cX10_swaps 100 = .ok (.iconst 0, 1) := by decide +kernel
theorem dX10_swaps_101 : decode cX10_swaps 101 = .ok (.istore_n 3, 1) := by decide +kernel
theorem dX10_swaps_102 : decode cX10_swaps 102 = .ok (.iload_n 3, 1) := by decide +kernel
theorem dX10_swaps_103 : decode cX10_swaps 103 = .ok (.aload_n 0, 1) := by decide +kernel
theorem dX10_swaps_104 : decode cX10_swaps 104 = .ok (.getfield 89, 3) := by decide +kernel
theorem dX10_swaps_107 : decode cX10_swaps 107 = .ok (.if_icmp .ge 32, 3) := by decide +kernel
theorem dX10_swaps_110 : decode cX10_swaps 110 = .ok (.aload_n 0, 1) := by decide +kernel
theorem dX10_swaps_111 : decode cX10_swaps 111 = .ok (.getfield 71, 3) := by decide +kernel
theorem dX10_swaps_114 : decode cX10_swaps 114 = .ok (.iload_n 3, 1) := by decide +kernel
theorem dX10_swaps_115 : decode cX10_swaps 115 = .ok (.baload, 1) := by decide +kernel
theorem dX10_swaps_116 : decode cX10_swaps 116 = .ok (.ifCond .ne 17, 3) := by decide +kernel
theorem dX10_swaps_119 : decode cX10_swaps 119 = .ok (.aload_n 0, 1) := by decide +kernel
theorem dX10_swaps_120 : decode cX10_swaps 120 = .ok (.iload_n 3, 1) := by decide +kernel
theorem dX10_swaps_121 : decode cX10_swaps 121 = .ok (.invokevirtual 284, 3) := by decide +kernel
theorem dX10_swaps_124 : decode cX10_swaps 124 = .ok (.ifCond .eq 9, 3) := by decide +kernel
theorem dX10_swaps_127 : decode cX10_swaps 127 = .ok (.iload_n 2, 1) := by decide +kernel
theorem dX10_swaps_128 : decode cX10_swaps 128 = .ok (.iconst 1, 1) := by decide +kernel
theorem dX10_swaps_129 : decode cX10_swaps 129 = .ok (.iload_n 3, 1) := by decide +kernel
theorem dX10_swaps_130 : decode cX10_swaps 130 = .ok (.ishl, 1) := by decide +kernel
theorem dX10_swaps_131 : decode cX10_swaps 131 = .ok (.ior, 1) := by decide +kernel
theorem dX10_swaps_132 : decode cX10_swaps 132 = .ok (.istore_n 2, 1) := by decide +kernel
theorem dX10_swaps_133 : decode cX10_swaps 133 = .ok (.iinc 3 1, 3) := by decide +kernel
theorem dX10_swaps_136 : decode cX10_swaps 136 = .ok (.goto (-34), 3) := by decide +kernel
theorem dX10_swaps_139 : decode cX10_swaps 139 = .ok (.iconst 0, 1) := by decide +kernel
theorem dX10_swaps_140 : decode cX10_swaps 140 = .ok (.istore_n 3, 1) := by decide +kernel
theorem dX10_swaps_141 : decode cX10_swaps 141 = .ok (.iload_n 3, 1) := by decide +kernel
theorem dX10_swaps_142 : decode cX10_swaps 142 = .ok (.aload_n 0, 1) := by decide +kernel
theorem dX10_swaps_143 : decode cX10_swaps 143 = .ok (.getfield 89, 3) := by decide +kernel
theorem dX10_swaps_146 : decode cX10_swaps 146 = .ok (.if_icmp .ge 47, 3) := by decide +kernel
theorem dX10_swaps_149 : decode cX10_swaps 149 = .ok (.iload_n 2, 1) := by decide +kernel
theorem dX10_swaps_150 : decode cX10_swaps 150 = .ok (.iload_n 3, 1) := by decide +kernel
theorem dX10_swaps_151 : decode cX10_swaps 151 = .ok (.invokestatic 194, 3) := by decide +kernel
theorem dX10_swaps_154 : decode cX10_swaps 154 = .ok (.ifCond .ne 6, 3) := by decide +kernel
theorem dX10_swaps_157 : decode cX10_swaps 157 = .ok (.goto 30, 3) := by decide +kernel
theorem dX10_swaps_160 : decode cX10_swaps 160 = .ok (.aload_n 0, 1) := by decide +kernel
theorem dX10_swaps_161 : decode cX10_swaps 161 = .ok (.getfield 75, 3) := by decide +kernel
theorem dX10_swaps_164 : decode cX10_swaps 164 = .ok (.iload_n 3, 1) := by decide +kernel
theorem dX10_swaps_165 : decode cX10_swaps 165 = .ok (.aload_n 0, 1) := by decide +kernel
theorem dX10_swaps_166 : decode cX10_swaps 166 = .ok (.getfield 28, 3) := by decide +kernel
theorem dX10_swaps_169 : decode cX10_swaps 169 = .ok (.aload_n 0, 1) := by decide +kernel
theorem dX10_swaps_170 : decode cX10_swaps 170 = .ok (.getfield 68, 3) := by decide +kernel
theorem dX10_swaps_173 : decode cX10_swaps 173 = .ok (.iload_n 3, 1) := by decide +kernel
theorem dX10_swaps_174 : decode cX10_swaps 174 = .ok (.iaload, 1) := by decide +kernel
theorem dX10_swaps_175 : decode cX10_swaps 175 = .ok (.iaload, 1) := by decide +kernel
theorem dX10_swaps_176 : decode cX10_swaps 176 = .ok (.iastore, 1) := by decide +kernel
theorem dX10_swaps_177 : decode cX10_swaps 177 = .ok (.aload_n 0, 1) := by decide +kernel
theorem dX10_swaps_178 : decode cX10_swaps 178 = .ok (.getfield 71, 3) := by decide +kernel
theorem dX10_swaps_181 : decode cX10_swaps 181 = .ok (.iload_n 3, 1) := by decide +kernel
theorem dX10_swaps_182 : decode cX10_swaps 182 = .ok (.iconst 1, 1) := by decide +kernel
theorem dX10_swaps_183 : decode cX10_swaps 183 = .ok (.bastore, 1) := by decide +kernel
theorem dX10_swaps_184 : decode cX10_swaps 184 = .ok (.iinc 1 (-1), 3) := by decide +kernel
theorem dX10_swaps_187 : decode cX10_swaps 187 = .ok (.iinc 3 1, 3) := by decide +kernel
theorem dX10_swaps_190 : decode cX10_swaps 190 = .ok (.goto (-49), 3) := by decide +kernel
theorem dX10_swaps_193 : decode cX10_swaps 193 = .ok (.goto (-135), 3) := by decide +kernel
theorem dX10_swaps_196 : decode cX10_swaps 196 = .ok (.return_, 1) := by decide +kernel
theorem dX10_next__0 : decode cX10_next_ 0 = .ok (.aload_n 0, 1) := by decide +kernel
theorem dX10_next__1 : decode cX10_next_ 1 = .ok (.iload_n 1, 1) := by decide +kernel
theorem dX10_next__2 : decode cX10_next_ 2 = .ok (.invokevirtual 110, 3) := by decide +kernel
theorem dX10_next__5 : decode cX10_next_ 5 = .ok (.ifCond .ne 10, 3) := by decide +kernel
theorem dX10_next__8 : decode cX10_next_ 8 = .ok (.aload_n 0, 1) := by decide +kernel
theorem dX10_next__9 : decode cX10_next_ 9 = .ok (.bipush (-2), 2) := by decide +kernel
theorem dX10_next__11 : decode cX10_next_ 11 = .ok (.invokevirtual 96, 3) := by decide +kernel
theorem dX10_next__14 : decode cX10_next_ 14 = .ok (.ireturn, 1) := by decide +kernel
theorem dX10_next__15 : decode cX10_next_ 15 = .ok (.aload_n 0, 1) := by decide +kernel
theorem dX10_next__16 : decode cX10_next_ 16 = .ok (.invokevirtual 287, 3) := by decide +kernel
theorem dX10_next__19 : decode cX10_next_ 19 = .ok (.aload_n 0, 1) := by decide +kernel
theorem dX10_next__20 : decode cX10_next_ 20 = .ok (.getfield 75, 3) := by decide +kernel
theorem dX10_next__23 : decode cX10_next_ 23 = .ok (.iload_n 1, 1) := by decide +kernel
theorem dX10_next__24 : decode cX10_next_ 24 = .ok (.iaload, 1) := by decide +kernel
theorem dX10_next__25 : decode cX10_next_ 25 = .ok (.ireturn, 1) := by decide +kernel
theorem dX10_others_0 : decode cX10_others 0 = .ok (.aload_n 0, 1) := by decide +kernel
theorem dX10_others_1 : decode cX10_others 1 = .ok (.invokevirtual 287, 3) := by decide +kernel
theorem dX10_others_4 : decode cX10_others 4 = .ok (.iconst 0, 1) := by decide +kernel
theorem dX10_others_5 : decode cX10_others 5 = .ok (.istore_n 1, 1) := by decide +kernel
theorem dX10_others_6 : decode cX10_others 6 = .ok (.iconst 0, 1) := by decide +kernel
theorem dX10_others_7 : decode cX10_others 7 = .ok (.istore_n 2, 1) := by decide +kernel
theorem dX10_others_8 : decode cX10_others 8 = .ok (.iload_n 2, 1) := by decide +kernel
theorem dX10_others_9 : decode cX10_others 9 = .ok (.aload_n 0, 1) := by decide +kernel
theorem dX10_others_10 : decode cX10_others 10 = .ok (.getfield 89, 3) := by decide +kernel
theorem dX10_others_13 : decode cX10_others 13 = .ok (.if_icmp .ge 27, 3) := by decide +kernel
theorem dX10_others_16 : decode cX10_others 16 = .ok (.aload_n 0, 1) := by decide +kernel
theorem dX10_others_17 : decode cX10_others 17 = .ok (.getfield 75, 3) := by decide +kernel
theorem dX10_others_20 : decode cX10_others 20 = .ok (.iload_n 2, 1) := by decide +kernel
theorem dX10_others_21 : decode cX10_others 21 = .ok (.iaload, 1) := by decide +kernel
theorem dX10_others_22 : decode cX10_others 22 = .ok (.aload_n 0, 1) := by decide +kernel
theorem dX10_others_23 : decode cX10_others 23 = .ok (.getfield 28, 3) := by decide +kernel
theorem dX10_others_26 : decode cX10_others 26 = .ok (.iload_n 2, 1) := by decide +kernel
theorem dX10_others_27 : decode cX10_others 27 = .ok (.iaload, 1) := by decide +kernel
theorem dX10_others_28 : decode cX10_others 28 = .ok (.if_icmp .eq 6, 3) := by decide +kernel
theorem dX10_others_31 : decode cX10_others 31 = .ok (.iinc 1 1, 3) := by decide +kernel
theorem dX10_others_34 : decode cX10_others 34 = .ok (.iinc 2 1, 3) := by decide +kernel
theorem dX10_others_37 : decode cX10_others 37 = .ok (.goto (-29), 3) := by decide +kernel
theorem dX10_others_40 : decode cX10_others 40 = .ok (.iload_n 1, 1) := by decide +kernel
theorem dX10_others_41 : decode cX10_others 41 = .ok (.ireturn, 1) := by decide +kernel
theorem dX10_swapped_0 : decode cX10_swapped 0 = .ok (.aload_n 0, 1) := by decide +kernel
theorem dX10_swapped_1 : decode cX10_swapped 1 = .ok (.invokevirtual 290, 3) := by decide +kernel
theorem dX10_swapped_4 : decode cX10_swapped 4 = .ok (.ireturn, 1) := by decide +kernel
theorem dX10_toldAt_0 : decode cX10_toldAt 0 = .ok (.aload_n 0, 1) := by decide +kernel
theorem dX10_toldAt_1 : decode cX10_toldAt 1 = .ok (.getfield 43, 3) := by decide +kernel
theorem dX10_toldAt_4 : decode cX10_toldAt 4 = .ok (.bipush 40, 2) := by decide +kernel
theorem dX10_toldAt_6 : decode cX10_toldAt 6 = .ok (.iload_n 1, 1) := by decide +kernel
theorem dX10_toldAt_7 : decode cX10_toldAt 7 = .ok (.imul, 1) := by decide +kernel
theorem dX10_toldAt_8 : decode cX10_toldAt 8 = .ok (.iload_n 2, 1) := by decide +kernel
theorem dX10_toldAt_9 : decode cX10_toldAt 9 = .ok (.iadd, 1) := by decide +kernel
theorem dX10_toldAt_10 : decode cX10_toldAt 10 = .ok (.laload, 1) := by decide +kernel
theorem dX10_toldAt_11 : decode cX10_toldAt 11 = .ok (.lreturn, 1) := by decide +kernel
theorem dX10_wrong_0 : decode cX10_wrong 0 = .ok (.iconst 0, 1) := by decide +kernel
theorem dX10_wrong_1 : decode cX10_wrong 1 = .ok (.istore_n 3, 1) := by decide +kernel
theorem dX10_wrong_2 : decode cX10_wrong 2 = .ok (.iconst 0, 1) := by decide +kernel
theorem dX10_wrong_3 : decode cX10_wrong 3 = .ok (.istore 4, 2) := by decide +kernel
theorem dX10_wrong_5 : decode cX10_wrong 5 = .ok (.iload 4, 2) := by decide +kernel
theorem dX10_wrong_7 : decode cX10_wrong 7 = .ok (.iload_n 2, 1) := by decide +kernel
theorem dX10_wrong_8 : decode cX10_wrong 8 = .ok (.if_icmp .ge 56, 3) := by decide +kernel
theorem dX10_wrong_11 : decode cX10_wrong 11 = .ok (.aload_n 0, 1) := by decide +kernel
theorem dX10_wrong_12 : decode cX10_wrong 12 = .ok (.iload_n 1, 1) := by decide +kernel
theorem dX10_wrong_13 : decode cX10_wrong 13 = .ok (.iconst 2, 1) := by decide +kernel
theorem dX10_wrong_14 : decode cX10_wrong 14 = .ok (.iload 4, 2) := by decide +kernel
theorem dX10_wrong_16 : decode cX10_wrong 16 = .ok (.imul, 1) := by decide +kernel
theorem dX10_wrong_17 : decode cX10_wrong 17 = .ok (.invokevirtual 293, 3) := by decide +kernel
theorem dX10_wrong_20 : decode cX10_wrong 20 = .ok (.lconst 0, 1) := by decide +kernel
theorem dX10_wrong_21 : decode cX10_wrong 21 = .ok (.lcmp, 1) := by decide +kernel
theorem dX10_wrong_22 : decode cX10_wrong 22 = .ok (.ifCond .lt 36, 3) := by decide +kernel
theorem dX10_wrong_25 : decode cX10_wrong 25 = .ok (.aload_n 0, 1) := by decide +kernel
theorem dX10_wrong_26 : decode cX10_wrong 26 = .ok (.iload_n 1, 1) := by decide +kernel
theorem dX10_wrong_27 : decode cX10_wrong 27 = .ok (.iconst 2, 1) := by decide +kernel
theorem dX10_wrong_28 : decode cX10_wrong 28 = .ok (.iload 4, 2) := by decide +kernel
theorem dX10_wrong_30 : decode cX10_wrong 30 = .ok (.imul, 1) := by decide +kernel
theorem dX10_wrong_31 : decode cX10_wrong 31 = .ok (.invokevirtual 293, 3) := by decide +kernel
theorem dX10_wrong_34 : decode cX10_wrong 34 = .ok (.aload_n 0, 1) := by decide +kernel
theorem dX10_wrong_35 : decode cX10_wrong 35 = .ok (.getfield 89, 3) := by decide +kernel
theorem dX10_wrong_38 : decode cX10_wrong 38 = .ok (.i2l, 1) := by decide +kernel
theorem dX10_wrong_39 : decode cX10_wrong 39 = .ok (.lcmp, 1) := by decide +kernel
theorem dX10_wrong_40 : decode cX10_wrong 40 = .ok (.ifCond .ge 18, 3) := by decide +kernel
theorem dX10_wrong_43 : decode cX10_wrong 43 = .ok (.iload_n 3, 1) := by decide +kernel
theorem dX10_wrong_44 : decode cX10_wrong 44 = .ok (.iconst 1, 1) := by decide +kernel
theorem dX10_wrong_45 : decode cX10_wrong 45 = .ok (.aload_n 0, 1) := by decide +kernel
theorem dX10_wrong_46 : decode cX10_wrong 46 = .ok (.iload_n 1, 1) := by decide +kernel
theorem dX10_wrong_47 : decode cX10_wrong 47 = .ok (.iconst 2, 1) := by decide +kernel
theorem dX10_wrong_48 : decode cX10_wrong 48 = .ok (.iload 4, 2) := by decide +kernel
theorem dX10_wrong_50 : decode cX10_wrong 50 = .ok (.imul, 1) := by decide +kernel
theorem dX10_wrong_51 : decode cX10_wrong 51 = .ok (.invokevirtual 293, 3) := by decide +kernel
theorem dX10_wrong_54 : decode cX10_wrong 54 = .ok (.l2i, 1) := by decide +kernel
theorem dX10_wrong_55 : decode cX10_wrong 55 = .ok (.ishl, 1) := by decide +kernel
theorem dX10_wrong_56 : decode cX10_wrong 56 = .ok (.ior, 1) := by decide +kernel
theorem dX10_wrong_57 : decode cX10_wrong 57 = .ok (.istore_n 3, 1) := by decide +kernel
theorem dX10_wrong_58 : decode cX10_wrong 58 = .ok (.iinc 4 1, 3) := by decide +kernel
theorem dX10_wrong_61 : decode cX10_wrong 61 = .ok (.goto (-56), 3) := by decide +kernel
theorem dX10_wrong_64 : decode cX10_wrong 64 = .ok (.aload_n 0, 1) := by decide +kernel
theorem dX10_wrong_65 : decode cX10_wrong 65 = .ok (.iload_n 3, 1) := by decide +kernel
theorem dX10_wrong_66 : decode cX10_wrong 66 = .ok (.invokevirtual 225, 3) := by decide +kernel
theorem dX10_wrong_69 : decode cX10_wrong 69 = .ok (.iconst 0, 1) := by decide +kernel
theorem dX10_wrong_70 : decode cX10_wrong 70 = .ok (.istore 4, 2) := by decide +kernel
theorem dX10_wrong_72 : decode cX10_wrong 72 = .ok (.iload 4, 2) := by decide +kernel
theorem dX10_wrong_74 : decode cX10_wrong 74 = .ok (.iload_n 2, 1) := by decide +kernel
theorem dX10_wrong_75 : decode cX10_wrong 75 = .ok (.if_icmp .ge 84, 3) := by decide +kernel
theorem dX10_wrong_78 : decode cX10_wrong 78 = .ok (.iload 4, 2) := by decide +kernel
theorem dX10_wrong_80 : decode cX10_wrong 80 = .ok (.aload_n 0, 1) := by decide +kernel
theorem dX10_wrong_81 : decode cX10_wrong 81 = .ok (.getfield 219, 3) := by decide +kernel
theorem dX10_wrong_84 : decode cX10_wrong 84 = .ok (.if_icmp .ge 24, 3) := by decide +kernel
theorem dX10_wrong_87 : decode cX10_wrong 87 = .ok (.aload_n 0, 1) := by decide +kernel
theorem dX10_wrong_88 : decode cX10_wrong 88 = .ok (.iload_n 1, 1) := by decide +kernel
theorem dX10_wrong_89 : decode cX10_wrong 89 = .ok (.iconst 2, 1) := by decide +kernel
theorem dX10_wrong_90 : decode cX10_wrong 90 = .ok (.iload 4, 2) := by decide +kernel
theorem dX10_wrong_92 : decode cX10_wrong 92 = .ok (.imul, 1) := by decide +kernel
theorem dX10_wrong_93 : decode cX10_wrong 93 = .ok (.invokevirtual 293, 3) := by decide +kernel
theorem dX10_wrong_96 : decode cX10_wrong 96 = .ok (.aload_n 0, 1) := by decide +kernel
theorem dX10_wrong_97 : decode cX10_wrong 97 = .ok (.getfield 59, 3) := by decide +kernel
theorem dX10_wrong_100 : decode cX10_wrong 100 = .ok (.iload 4, 2) := by decide +kernel
theorem dX10_wrong_102 : decode cX10_wrong 102 = .ok (.iaload, 1) := by decide +kernel
theorem dX10_wrong_103 : decode cX10_wrong 103 = .ok (.i2l, 1) := by decide +kernel
theorem dX10_wrong_104 : decode cX10_wrong 104 = .ok (.lcmp, 1) := by decide +kernel
theorem dX10_wrong_105 : decode cX10_wrong 105 = .ok (.ifCond .eq 6, 3) := by decide +kernel
theorem dX10_wrong_108 : decode cX10_wrong 108 = .ok (.iload 4, 2) := by decide +kernel
theorem dX10_wrong_110 : decode cX10_wrong 110 = .ok (.ireturn, 1) := by decide +kernel
theorem dX10_wrong_111 : decode cX10_wrong 111 = .ok (.aload_n 0, 1) := by decide +kernel
theorem dX10_wrong_112 : decode cX10_wrong 112 = .ok (.aload_n 0, 1) := by decide +kernel
theorem dX10_wrong_113 : decode cX10_wrong 113 = .ok (.getfield 59, 3) := by decide +kernel
theorem dX10_wrong_116 : decode cX10_wrong 116 = .ok (.iload 4, 2) := by decide +kernel
theorem dX10_wrong_118 : decode cX10_wrong 118 = .ok (.iaload, 1) := by decide +kernel
theorem dX10_wrong_119 : decode cX10_wrong 119 = .ok (.invokevirtual 228, 3) := by decide +kernel
theorem dX10_wrong_122 : decode cX10_wrong 122 = .ok (.aload_n 0, 1) := by decide +kernel
theorem dX10_wrong_123 : decode cX10_wrong 123 = .ok (.iload_n 1, 1) := by decide +kernel
theorem dX10_wrong_124 : decode cX10_wrong 124 = .ok (.iconst 2, 1) := by decide +kernel
theorem dX10_wrong_125 : decode cX10_wrong 125 = .ok (.iload 4, 2) := by decide +kernel
theorem dX10_wrong_127 : decode cX10_wrong 127 = .ok (.imul, 1) := by decide +kernel
theorem dX10_wrong_128 : decode cX10_wrong 128 = .ok (.iconst 1, 1) := by decide +kernel
theorem dX10_wrong_129 : decode cX10_wrong 129 = .ok (.iadd, 1) := by decide +kernel
theorem dX10_wrong_130 : decode cX10_wrong 130 = .ok (.invokevirtual 293, 3) := by decide +kernel
theorem dX10_wrong_133 : decode cX10_wrong 133 = .ok (.aload_n 0, 1) := by decide +kernel
theorem dX10_wrong_134 : decode cX10_wrong 134 = .ok (.getfield 65, 3) := by decide +kernel
theorem dX10_wrong_137 : decode cX10_wrong 137 = .ok (.aload_n 0, 1) := by decide +kernel
theorem dX10_wrong_138 : decode cX10_wrong 138 = .ok (.getfield 59, 3) := by decide +kernel
theorem dX10_wrong_141 : decode cX10_wrong 141 = .ok (.iload 4, 2) := by decide +kernel
theorem dX10_wrong_143 : decode cX10_wrong 143 = .ok (.iaload, 1) := by decide +kernel
theorem dX10_wrong_144 : decode cX10_wrong 144 = .ok (.iaload, 1) := by decide +kernel
theorem dX10_wrong_145 : decode cX10_wrong 145 = .ok (.i2l, 1) := by decide +kernel
theorem dX10_wrong_146 : decode cX10_wrong 146 = .ok (.lcmp, 1) := by decide +kernel
theorem dX10_wrong_147 : decode cX10_wrong 147 = .ok (.ifCond .eq 6, 3) := by decide +kernel
theorem dX10_wrong_150 : decode cX10_wrong 150 = .ok (.iload 4, 2) := by decide +kernel
theorem dX10_wrong_152 : decode cX10_wrong 152 = .ok (.ireturn, 1) := by decide +kernel
theorem dX10_wrong_153 : decode cX10_wrong 153 = .ok (.iinc 4 1, 3) := by decide +kernel
theorem dX10_wrong_156 : decode cX10_wrong 156 = .ok (.goto (-84), 3) := by decide +kernel
theorem dX10_wrong_159 : decode cX10_wrong 159 = .ok (.iconst (-1), 1) := by decide +kernel
theorem dX10_wrong_160 : decode cX10_wrong 160 = .ok (.ireturn, 1) := by decide +kernel
theorem dX10_judge_0 : decode cX10_judge 0 = .ok (.iload_n 1, 1) := by decide +kernel
theorem dX10_judge_1 : decode cX10_judge 1 = .ok (.invokestatic 92, 3) := by decide +kernel
theorem dX10_judge_4 : decode cX10_judge 4 = .ok (.ifCond .eq 13, 3) := by decide +kernel
theorem dX10_judge_7 : decode cX10_judge 7 = .ok (.iload_n 2, 1) := by decide +kernel
theorem dX10_judge_8 : decode cX10_judge 8 = .ok (.iconst 0, 1) := by decide +kernel
theorem dX10_judge_9 : decode cX10_judge 9 = .ok (.bipush 20, 2) := by decide +kernel
theorem dX10_judge_11 : decode cX10_judge 11 = .ok (.invokestatic 85, 3) := by decide +kernel
theorem dX10_judge_14 : decode cX10_judge 14 = .ok (.ifCond .ne 10, 3) := by decide +kernel
theorem dX10_judge_17 : decode cX10_judge 17 = .ok (.aload_n 0, 1) := by decide +kernel
theorem dX10_judge_18 : decode cX10_judge 18 = .ok (.bipush (-2), 2) := by decide +kernel
theorem dX10_judge_20 : decode cX10_judge 20 = .ok (.invokevirtual 96, 3) := by decide +kernel
theorem dX10_judge_23 : decode cX10_judge 23 = .ok (.ireturn, 1) := by decide +kernel
theorem dX10_judge_24 : decode cX10_judge 24 = .ok (.aload_n 0, 1) := by decide +kernel
theorem dX10_judge_25 : decode cX10_judge 25 = .ok (.iload_n 1, 1) := by decide +kernel
theorem dX10_judge_26 : decode cX10_judge 26 = .ok (.invokevirtual 100, 3) := by decide +kernel
theorem dX10_judge_29 : decode cX10_judge 29 = .ok (.ifCond .ne 13, 3) := by decide +kernel
theorem dX10_judge_32 : decode cX10_judge 32 = .ok (.aload_n 0, 1) := by decide +kernel
theorem dX10_judge_33 : decode cX10_judge 33 = .ok (.aload_n 0, 1) := by decide +kernel
theorem dX10_judge_34 : decode cX10_judge 34 = .ok (.iload_n 1, 1) := by decide +kernel
theorem dX10_judge_35 : decode cX10_judge 35 = .ok (.invokevirtual 103, 3) := by decide +kernel
theorem dX10_judge_38 : decode cX10_judge 38 = .ok (.invokevirtual 96, 3) := by decide +kernel
theorem dX10_judge_41 : decode cX10_judge 41 = .ok (.ireturn, 1) := by decide +kernel
theorem dX10_judge_42 : decode cX10_judge 42 = .ok (.iconst 2, 1) := by decide +kernel
theorem dX10_judge_43 : decode cX10_judge 43 = .ok (.iload_n 2, 1) := by decide +kernel
theorem dX10_judge_44 : decode cX10_judge 44 = .ok (.imul, 1) := by decide +kernel
theorem dX10_judge_45 : decode cX10_judge 45 = .ok (.aload_n 0, 1) := by decide +kernel
theorem dX10_judge_46 : decode cX10_judge 46 = .ok (.getfield 40, 3) := by decide +kernel
theorem dX10_judge_49 : decode cX10_judge 49 = .ok (.iload_n 1, 1) := by decide +kernel
theorem dX10_judge_50 : decode cX10_judge 50 = .ok (.iaload, 1) := by decide +kernel
theorem dX10_judge_51 : decode cX10_judge 51 = .ok (.if_icmp .le 12, 3) := by decide +kernel
theorem dX10_judge_54 : decode cX10_judge 54 = .ok (.aload_n 0, 1) := by decide +kernel
theorem dX10_judge_55 : decode cX10_judge 55 = .ok (.bipush (-2), 2) := by decide +kernel
theorem dX10_judge_57 : decode cX10_judge 57 = .ok (.invokevirtual 96, 3) := by decide +kernel
theorem dX10_judge_60 : decode cX10_judge 60 = .ok (.goto 9, 3) := by decide +kernel
theorem dX10_judge_63 : decode cX10_judge 63 = .ok (.aload_n 0, 1) := by decide +kernel
theorem dX10_judge_64 : decode cX10_judge 64 = .ok (.iload_n 1, 1) := by decide +kernel
theorem dX10_judge_65 : decode cX10_judge 65 = .ok (.iload_n 2, 1) := by decide +kernel
theorem dX10_judge_66 : decode cX10_judge 66 = .ok (.invokevirtual 296, 3) := by decide +kernel
theorem dX10_judge_69 : decode cX10_judge 69 = .ok (.ireturn, 1) := by decide +kernel
theorem dX10_goes_0 : decode cX10_goes 0 = .ok (.aload_n 0, 1) := by decide +kernel
theorem dX10_goes_1 : decode cX10_goes 1 = .ok (.iload_n 1, 1) := by decide +kernel
theorem dX10_goes_2 : decode cX10_goes 2 = .ok (.invokevirtual 117, 3) := by decide +kernel
theorem dX10_goes_5 : decode cX10_goes 5 = .ok (.iconst 0, 1) := by decide +kernel
theorem dX10_goes_6 : decode cX10_goes 6 = .ok (.istore_n 2, 1) := by decide +kernel
theorem dX10_goes_7 : decode cX10_goes 7 = .ok (.iconst 0, 1) := by decide +kernel
theorem dX10_goes_8 : decode cX10_goes 8 = .ok (.istore_n 3, 1) := by decide +kernel
theorem dX10_goes_9 : decode cX10_goes 9 = .ok (.iload_n 3, 1) := by decide +kernel
theorem dX10_goes_10 : decode cX10_goes 10 = .ok (.aload_n 0, 1) := by decide +kernel
theorem dX10_goes_11 : decode cX10_goes 11 = .ok (.getfield 89, 3) := by decide +kernel
theorem dX10_goes_14 : decode cX10_goes 14 = .ok (.if_icmp .ge 112, 3) := by decide +kernel
theorem dX10_goes_17 : decode cX10_goes 17 = .ok (.iconst 0, 1) := by decide +kernel
theorem dX10_goes_18 : decode cX10_goes 18 = .ok (.istore 4, 2) := by decide +kernel
theorem dX10_goes_20 : decode cX10_goes 20 = .ok (.iload 4, 2) := by decide +kernel
theorem dX10_goes_22 : decode cX10_goes 22 = .ok (.bipush 12, 2) := by decide +kernel
theorem dX10_goes_24 : decode cX10_goes 24 = .ok (.if_icmp .ge 70, 3) := by decide +kernel
theorem dX10_goes_27 : decode cX10_goes 27 = .ok (.aload_n 0, 1) := by decide +kernel
theorem dX10_goes_28 : decode cX10_goes 28 = .ok (.getfield 62, 3) := by decide +kernel
theorem dX10_goes_31 : decode cX10_goes 31 = .ok (.iload_n 3, 1) := by decide +kernel
theorem dX10_goes_32 : decode cX10_goes 32 = .ok (.iaload, 1) := by decide +kernel
theorem dX10_goes_33 : decode cX10_goes 33 = .ok (.iload 4, 2) := by decide +kernel
theorem dX10_goes_35 : decode cX10_goes 35 = .ok (.invokestatic 194, 3) := by decide +kernel
theorem dX10_goes_38 : decode cX10_goes 38 = .ok (.ifCond .ne 6, 3) := by decide +kernel
theorem dX10_goes_41 : decode cX10_goes 41 = .ok (.goto 47, 3) := by decide +kernel
theorem dX10_goes_44 : decode cX10_goes 44 = .ok (.iinc 2 1, 3) := by decide +kernel
theorem dX10_goes_47 : decode cX10_goes 47 = .ok (.aload_n 0, 1) := by decide +kernel
theorem dX10_goes_48 : decode cX10_goes 48 = .ok (.getfield 31, 3) := by decide +kernel
theorem dX10_goes_51 : decode cX10_goes 51 = .ok (.bipush 8, 2) := by decide +kernel
theorem dX10_goes_53 : decode cX10_goes 53 = .ok (.iload_n 3, 1) := by decide +kernel
theorem dX10_goes_54 : decode cX10_goes 54 = .ok (.imul, 1) := by decide +kernel
theorem dX10_goes_55 : decode cX10_goes 55 = .ok (.aload_n 0, 1) := by decide +kernel
theorem dX10_goes_56 : decode cX10_goes 56 = .ok (.getfield 9, 3) := by decide +kernel
theorem dX10_goes_59 : decode cX10_goes 59 = .ok (.iload 4, 2) := by decide +kernel
theorem dX10_goes_61 : decode cX10_goes 61 = .ok (.iaload, 1) := by decide +kernel
theorem dX10_goes_62 : decode cX10_goes 62 = .ok (.iadd, 1) := by decide +kernel
theorem dX10_goes_63 : decode cX10_goes 63 = .ok (.bipush 99, 2) := by decide +kernel
theorem dX10_goes_65 : decode cX10_goes 65 = .ok (.aload_n 0, 1) := by decide +kernel
theorem dX10_goes_66 : decode cX10_goes 66 = .ok (.getfield 31, 3) := by decide +kernel
theorem dX10_goes_69 : decode cX10_goes 69 = .ok (.bipush 8, 2) := by decide +kernel
theorem dX10_goes_71 : decode cX10_goes 71 = .ok (.iload_n 3, 1) := by decide +kernel
theorem dX10_goes_72 : decode cX10_goes 72 = .ok (.imul, 1) := by decide +kernel
theorem dX10_goes_73 : decode cX10_goes 73 = .ok (.aload_n 0, 1) := by decide +kernel
theorem dX10_goes_74 : decode cX10_goes 74 = .ok (.getfield 9, 3) := by decide +kernel
theorem dX10_goes_77 : decode cX10_goes 77 = .ok (.iload 4, 2) := by decide +kernel
theorem dX10_goes_79 : decode cX10_goes 79 = .ok (.iaload, 1) := by decide +kernel
theorem dX10_goes_80 : decode cX10_goes 80 = .ok (.iadd, 1) := by decide +kernel
theorem dX10_goes_81 : decode cX10_goes 81 = .ok (.iaload, 1) := by decide +kernel
theorem dX10_goes_82 : decode cX10_goes 82 = .ok (.iconst 1, 1) := by decide +kernel
theorem dX10_goes_83 : decode cX10_goes 83 = .ok (.iadd, 1) := by decide +kernel
theorem dX10_goes_84 : decode cX10_goes 84 = .ok (.invokestatic 299, 3) := by decide +kernel
theorem dX10_goes_87 : decode cX10_goes 87 = .ok (.iastore, 1) := by decide +kernel
theorem dX10_goes_88 : decode cX10_goes 88 = .ok (.iinc 4 1, 3) := by decide +kernel
theorem dX10_goes_91 : decode cX10_goes 91 = .ok (.goto (-71), 3) := by decide +kernel
theorem dX10_goes_94 : decode cX10_goes 94 = .ok (.aload_n 0, 1) := by decide +kernel
theorem dX10_goes_95 : decode cX10_goes 95 = .ok (.getfield 62, 3) := by decide +kernel
theorem dX10_goes_98 : decode cX10_goes 98 = .ok (.iload_n 3, 1) := by decide +kernel
theorem dX10_goes_99 : decode cX10_goes 99 = .ok (.iaload, 1) := by decide +kernel
theorem dX10_goes_100 : decode cX10_goes 100 = .ok (.ifCond .eq 20, 3) := by decide +kernel
theorem dX10_goes_103 : decode cX10_goes 103 = .ok (.aload_n 0, 1) := by decide +kernel
theorem dX10_goes_104 : decode cX10_goes 104 = .ok (.getfield 28, 3) := by decide +kernel
theorem dX10_goes_107 : decode cX10_goes 107 = .ok (.iload_n 3, 1) := by decide +kernel
theorem dX10_goes_108 : decode cX10_goes 108 = .ok (.aload_n 0, 1) := by decide +kernel
theorem dX10_goes_109 : decode cX10_goes 109 = .ok (.getfield 9, 3) := by decide +kernel
theorem dX10_goes_112 : decode cX10_goes 112 = .ok (.aload_n 0, 1) := by decide +kernel
theorem dX10_goes_113 : decode cX10_goes 113 = .ok (.getfield 65, 3) := by decide +kernel
theorem dX10_goes_116 : decode cX10_goes 116 = .ok (.iload_n 3, 1) := by decide +kernel
theorem dX10_goes_117 : decode cX10_goes 117 = .ok (.iaload, 1) := by decide +kernel
theorem dX10_goes_118 : decode cX10_goes 118 = .ok (.iaload, 1) := by decide +kernel
theorem dX10_goes_119 : decode cX10_goes 119 = .ok (.iastore, 1) := by decide +kernel
theorem dX10_goes_120 : decode cX10_goes 120 = .ok (.iinc 3 1, 3) := by decide +kernel
theorem dX10_goes_123 : decode cX10_goes 123 = .ok (.goto (-114), 3) := by decide +kernel
theorem dX10_goes_126 : decode cX10_goes 126 = .ok (.iconst 0, 1) := by decide +kernel
theorem dX10_goes_127 : decode cX10_goes 127 = .ok (.istore_n 3, 1) := by decide +kernel
theorem dX10_goes_128 : decode cX10_goes 128 = .ok (.iload_n 3, 1) := by decide +kernel
theorem dX10_goes_129 : decode cX10_goes 129 = .ok (.bipush 12, 2) := by decide +kernel
theorem dX10_goes_131 : decode cX10_goes 131 = .ok (.if_icmp .ge 21, 3) := by decide +kernel
theorem dX10_goes_134 : decode cX10_goes 134 = .ok (.aload_n 0, 1) := by decide +kernel
theorem dX10_goes_135 : decode cX10_goes 135 = .ok (.getfield 9, 3) := by decide +kernel
theorem dX10_goes_138 : decode cX10_goes 138 = .ok (.iload_n 3, 1) := by decide +kernel
theorem dX10_goes_139 : decode cX10_goes 139 = .ok (.aload_n 0, 1) := by decide +kernel
theorem dX10_goes_140 : decode cX10_goes 140 = .ok (.getfield 56, 3) := by decide +kernel
theorem dX10_goes_143 : decode cX10_goes 143 = .ok (.iload_n 3, 1) := by decide +kernel
theorem dX10_goes_144 : decode cX10_goes 144 = .ok (.iaload, 1) := by decide +kernel
theorem dX10_goes_145 : decode cX10_goes 145 = .ok (.iastore, 1) := by decide +kernel
theorem dX10_goes_146 : decode cX10_goes 146 = .ok (.iinc 3 1, 3) := by decide +kernel
theorem dX10_goes_149 : decode cX10_goes 149 = .ok (.goto (-21), 3) := by decide +kernel
theorem dX10_goes_152 : decode cX10_goes 152 = .ok (.aload_n 0, 1) := by decide +kernel
theorem dX10_goes_153 : decode cX10_goes 153 = .ok (.dup, 1) := by decide +kernel
theorem dX10_goes_154 : decode cX10_goes 154 = .ok (.getfield 304, 3) := by decide +kernel
theorem dX10_goes_157 : decode cX10_goes 157 = .ok (.iconst 1, 1) := by decide +kernel
theorem dX10_goes_158 : decode cX10_goes 158 = .ok (.iadd, 1) := by decide +kernel
theorem dX10_goes_159 : decode cX10_goes 159 = .ok (.putfield 304, 3) := by decide +kernel
theorem dX10_goes_162 : decode cX10_goes 162 = .ok (.iload_n 2, 1) := by decide +kernel
theorem dX10_goes_163 : decode cX10_goes 163 = .ok (.ireturn, 1) := by decide +kernel
theorem dX10_evening_0 : decode cX10_evening 0 = .ok (.aload_n 0, 1) := by decide +kernel
theorem dX10_evening_1 : decode cX10_evening 1 = .ok (.iload_n 1, 1) := by decide +kernel
theorem dX10_evening_2 : decode cX10_evening 2 = .ok (.invokevirtual 234, 3) := by decide +kernel
theorem dX10_evening_5 : decode cX10_evening 5 = .ok (.ifCond .eq 11, 3) := by decide +kernel
theorem dX10_evening_8 : decode cX10_evening 8 = .ok (.aload_n 0, 1) := by decide +kernel
theorem dX10_evening_9 : decode cX10_evening 9 = .ok (.iload_n 1, 1) := by decide +kernel
theorem dX10_evening_10 : decode cX10_evening 10 = .ok (.invokevirtual 307, 3) := by decide +kernel
theorem dX10_evening_13 : decode cX10_evening 13 = .ok (.goto 9, 3) := by decide +kernel
theorem dX10_evening_16 : decode cX10_evening 16 = .ok (.aload_n 0, 1) := by decide +kernel
theorem dX10_evening_17 : decode cX10_evening 17 = .ok (.bipush (-2), 2) := by decide +kernel
theorem dX10_evening_19 : decode cX10_evening 19 = .ok (.invokevirtual 96, 3) := by decide +kernel
theorem dX10_evening_22 : decode cX10_evening 22 = .ok (.ireturn, 1) := by decide +kernel
theorem dX10_swap_0 : decode cX10_swap 0 = .ok (.aload_n 0, 1) := by decide +kernel
theorem dX10_swap_1 : decode cX10_swap 1 = .ok (.invokevirtual 290, 3) := by decide +kernel
theorem dX10_swap_4 : decode cX10_swap 4 = .ok (.istore_n 1, 1) := by decide +kernel
theorem dX10_swap_5 : decode cX10_swap 5 = .ok (.iconst 0, 1) := by decide +kernel
theorem dX10_swap_6 : decode cX10_swap 6 = .ok (.istore_n 2, 1) := by decide +kernel
theorem dX10_swap_7 : decode cX10_swap 7 = .ok (.iload_n 2, 1) := by decide +kernel
theorem dX10_swap_8 : decode cX10_swap 8 = .ok (.aload_n 0, 1) := by decide +kernel
theorem dX10_swap_9 : decode cX10_swap 9 = .ok (.getfield 89, 3) := by decide +kernel
theorem dX10_swap_12 : decode cX10_swap 12 = .ok (.if_icmp .ge 111, 3) := by decide +kernel
theorem dX10_swap_15 : decode cX10_swap 15 = .ok (.aload_n 0, 1) := by decide +kernel
theorem dX10_swap_16 : decode cX10_swap 16 = .ok (.getfield 28, 3) := by decide +kernel
theorem dX10_swap_19 : decode cX10_swap 19 = .ok (.iload_n 2, 1) := by decide +kernel
theorem dX10_swap_20 : decode cX10_swap 20 = .ok (.iaload, 1) := by decide +kernel
theorem dX10_swap_21 : decode cX10_swap 21 = .ok (.iconst (-1), 1) := by decide +kernel
theorem dX10_swap_22 : decode cX10_swap 22 = .ok (.if_icmp .ne 6, 3) := by decide +kernel
theorem dX10_swap_25 : decode cX10_swap 25 = .ok (.goto 92, 3) := by decide +kernel
theorem dX10_swap_28 : decode cX10_swap 28 = .ok (.aload_n 0, 1) := by decide +kernel
theorem dX10_swap_29 : decode cX10_swap 29 = .ok (.getfield 31, 3) := by decide +kernel
theorem dX10_swap_32 : decode cX10_swap 32 = .ok (.bipush 8, 2) := by decide +kernel
theorem dX10_swap_34 : decode cX10_swap 34 = .ok (.iload_n 2, 1) := by decide +kernel
theorem dX10_swap_35 : decode cX10_swap 35 = .ok (.imul, 1) := by decide +kernel
theorem dX10_swap_36 : decode cX10_swap 36 = .ok (.aload_n 0, 1) := by decide +kernel
theorem dX10_swap_37 : decode cX10_swap 37 = .ok (.getfield 28, 3) := by decide +kernel
theorem dX10_swap_40 : decode cX10_swap 40 = .ok (.iload_n 2, 1) := by decide +kernel
theorem dX10_swap_41 : decode cX10_swap 41 = .ok (.iaload, 1) := by decide +kernel
theorem dX10_swap_42 : decode cX10_swap 42 = .ok (.iadd, 1) := by decide +kernel
theorem dX10_swap_43 : decode cX10_swap 43 = .ok (.iconst 0, 1) := by decide +kernel
theorem dX10_swap_44 : decode cX10_swap 44 = .ok (.aload_n 0, 1) := by decide +kernel
theorem dX10_swap_45 : decode cX10_swap 45 = .ok (.getfield 31, 3) := by decide +kernel
theorem dX10_swap_48 : decode cX10_swap 48 = .ok (.bipush 8, 2) := by decide +kernel
theorem dX10_swap_50 : decode cX10_swap 50 = .ok (.iload_n 2, 1) := by decide +kernel
theorem dX10_swap_51 : decode cX10_swap 51 = .ok (.imul, 1) := by decide +kernel
theorem dX10_swap_52 : decode cX10_swap 52 = .ok (.aload_n 0, 1) := by decide +kernel
theorem dX10_swap_53 : decode cX10_swap 53 = .ok (.getfield 28, 3) := by decide +kernel
theorem dX10_swap_56 : decode cX10_swap 56 = .ok (.iload_n 2, 1) := by decide +kernel
theorem dX10_swap_57 : decode cX10_swap 57 = .ok (.iaload, 1) := by decide +kernel
theorem dX10_swap_58 : decode cX10_swap 58 = .ok (.iadd, 1) := by decide +kernel
theorem dX10_swap_59 : decode cX10_swap 59 = .ok (.iaload, 1) := by decide +kernel
theorem dX10_swap_60 : decode cX10_swap 60 = .ok (.iconst 1, 1) := by decide +kernel
theorem dX10_swap_61 : decode cX10_swap 61 = .ok (.isub, 1) := by decide +kernel
theorem dX10_swap_62 : decode cX10_swap 62 = .ok (.invokestatic 310, 3) := by decide +kernel
theorem dX10_swap_65 : decode cX10_swap 65 = .ok (.iastore, 1) := by decide +kernel
theorem dX10_swap_66 : decode cX10_swap 66 = .ok (.aload_n 0, 1) := by decide +kernel
theorem dX10_swap_67 : decode cX10_swap 67 = .ok (.getfield 28, 3) := by decide +kernel
theorem dX10_swap_70 : decode cX10_swap 70 = .ok (.iload_n 2, 1) := by decide +kernel
theorem dX10_swap_71 : decode cX10_swap 71 = .ok (.aload_n 0, 1) := by decide +kernel
theorem dX10_swap_72 : decode cX10_swap 72 = .ok (.getfield 75, 3) := by decide +kernel
theorem dX10_swap_75 : decode cX10_swap 75 = .ok (.iload_n 2, 1) := by decide +kernel
theorem dX10_swap_76 : decode cX10_swap 76 = .ok (.iaload, 1) := by decide +kernel
theorem dX10_swap_77 : decode cX10_swap 77 = .ok (.iastore, 1) := by decide +kernel
theorem dX10_swap_78 : decode cX10_swap 78 = .ok (.aload_n 0, 1) := by decide +kernel
theorem dX10_swap_79 : decode cX10_swap 79 = .ok (.getfield 31, 3) := by decide +kernel
theorem dX10_swap_82 : decode cX10_swap 82 = .ok (.bipush 8, 2) := by decide +kernel
theorem dX10_swap_84 : decode cX10_swap 84 = .ok (.iload_n 2, 1) := by decide +kernel
theorem dX10_swap_85 : decode cX10_swap 85 = .ok (.imul, 1) := by decide +kernel
theorem dX10_swap_86 : decode cX10_swap 86 = .ok (.aload_n 0, 1) := by decide +kernel
theorem dX10_swap_87 : decode cX10_swap 87 = .ok (.getfield 28, 3) := by decide +kernel
theorem dX10_swap_90 : decode cX10_swap 90 = .ok (.iload_n 2, 1) := by decide +kernel
theorem dX10_swap_91 : decode cX10_swap 91 = .ok (.iaload, 1) := by decide +kernel
theorem dX10_swap_92 : decode cX10_swap 92 = .ok (.iadd, 1) := by decide +kernel
theorem dX10_swap_93 : decode cX10_swap 93 = .ok (.bipush 99, 2) := by decide +kernel
theorem dX10_swap_95 : decode cX10_swap 95 = .ok (.aload_n 0, 1) := by decide +kernel
theorem dX10_swap_96 : decode cX10_swap 96 = .ok (.getfield 31, 3) := by decide +kernel
theorem dX10_swap_99 : decode cX10_swap 99 = .ok (.bipush 8, 2) := by decide +kernel
theorem dX10_swap_101 : decode cX10_swap 101 = .ok (.iload_n 2, 1) := by decide +kernel
theorem dX10_swap_102 : decode cX10_swap 102 = .ok (.imul, 1) := by decide +kernel
theorem dX10_swap_103 : decode cX10_swap 103 = .ok (.aload_n 0, 1) := by decide +kernel
theorem dX10_swap_104 : decode cX10_swap 104 = .ok (.getfield 28, 3) := by decide +kernel
theorem dX10_swap_107 : decode cX10_swap 107 = .ok (.iload_n 2, 1) := by decide +kernel
theorem dX10_swap_108 : decode cX10_swap 108 = .ok (.iaload, 1) := by decide +kernel
theorem dX10_swap_109 : decode cX10_swap 109 = .ok (.iadd, 1) := by decide +kernel
theorem dX10_swap_110 : decode cX10_swap 110 = .ok (.iaload, 1) := by decide +kernel
theorem dX10_swap_111 : decode cX10_swap 111 = .ok (.iconst 1, 1) := by decide +kernel
theorem dX10_swap_112 : decode cX10_swap 112 = .ok (.iadd, 1) := by decide +kernel
theorem dX10_swap_113 : decode cX10_swap 113 = .ok (.invokestatic 299, 3) := by decide +kernel
theorem dX10_swap_116 : decode cX10_swap 116 = .ok (.iastore, 1) := by decide +kernel
theorem dX10_swap_117 : decode cX10_swap 117 = .ok (.iinc 2 1, 3) := by decide +kernel
theorem dX10_swap_120 : decode cX10_swap 120 = .ok (.goto (-113), 3) := by decide +kernel
theorem dX10_swap_123 : decode cX10_swap 123 = .ok (.iload_n 1, 1) := by decide +kernel
theorem dX10_swap_124 : decode cX10_swap 124 = .ok (.ireturn, 1) := by decide +kernel
theorem dX10_draw_0 : decode cX10_draw 0 = .ok (.aload_n 0, 1) := by decide +kernel
theorem dX10_draw_1 : decode cX10_draw 1 = .ok (.aload_n 0, 1) := by decide +kernel
theorem dX10_draw_2 : decode cX10_draw 2 = .ok (.getfield 81, 3) := by decide +kernel
theorem dX10_draw_5 : decode cX10_draw 5 = .ok (.ldc_w 313, 3) := by decide +kernel
theorem dX10_draw_8 : decode cX10_draw 8 = .ok (.imul, 1) := by decide +kernel
theorem dX10_draw_9 : decode cX10_draw 9 = .ok (.sipush 12345, 3) := by decide +kernel
theorem dX10_draw_12 : decode cX10_draw 12 = .ok (.iadd, 1) := by decide +kernel
theorem dX10_draw_13 : decode cX10_draw 13 = .ok (.putfield 81, 3) := by decide +kernel
theorem dX10_draw_16 : decode cX10_draw 16 = .ok (.aload_n 0, 1) := by decide +kernel
theorem dX10_draw_17 : decode cX10_draw 17 = .ok (.getfield 81, 3) := by decide +kernel
theorem dX10_draw_20 : decode cX10_draw 20 = .ok (.bipush 16, 2) := by decide +kernel
theorem dX10_draw_22 : decode cX10_draw 22 = .ok (.iushr, 1) := by decide +kernel
theorem dX10_draw_23 : decode cX10_draw 23 = .ok (.iload_n 1, 1) := by decide +kernel
theorem dX10_draw_24 : decode cX10_draw 24 = .ok (.irem, 1) := by decide +kernel
theorem dX10_draw_25 : decode cX10_draw 25 = .ok (.ireturn, 1) := by decide +kernel
theorem dX10_christmases_0 : decode cX10_christmases 0 = .ok (.iload_n 1, 1) := by decide +kernel
theorem dX10_christmases_1 : decode cX10_christmases 1 = .ok (.iconst 1, 1) := by decide +kernel
theorem dX10_christmases_2 : decode cX10_christmases 2 = .ok (.bipush 40, 2) := by decide +kernel
theorem dX10_christmases_4 : decode cX10_christmases 4 = .ok (.invokestatic 85, 3) := by decide +kernel
theorem dX10_christmases_7 : decode cX10_christmases 7 = .ok (.ifCond .ne 10, 3) := by decide +kernel
theorem dX10_christmases_10 : decode cX10_christmases 10 = .ok (.aload_n 0, 1) := by decide +kernel
theorem dX10_christmases_11 : decode cX10_christmases 11 = .ok (.bipush (-2), 2) := by decide +kernel
theorem dX10_christmases_13 : decode cX10_christmases 13 = .ok (.invokevirtual 96, 3) := by decide +kernel
theorem dX10_christmases_16 : decode cX10_christmases 16 = .ok (.ireturn, 1) := by decide +kernel
theorem dX10_christmases_17 : decode cX10_christmases 17 = .ok (.iconst 0, 1) := by decide +kernel
theorem dX10_christmases_18 : decode cX10_christmases 18 = .ok (.istore_n 2, 1) := by decide +kernel
theorem dX10_christmases_19 : decode cX10_christmases 19 = .ok (.iconst 0, 1) := by decide +kernel
theorem dX10_christmases_20 : decode cX10_christmases 20 = .ok (.istore_n 3, 1) := by decide +kernel
theorem dX10_christmases_21 : decode cX10_christmases 21 = .ok (.iload_n 3, 1) := by decide +kernel
theorem dX10_christmases_22 : decode cX10_christmases 22 = .ok (.iload_n 1, 1) := by decide +kernel
theorem dX10_christmases_23 : decode cX10_christmases 23 = .ok (.if_icmp .ge 104, 3) := by decide +kernel
theorem dX10_christmases_26 : decode cX10_christmases 26 = .ok (.iconst 0, 1) := by decide +kernel
theorem dX10_christmases_27 : decode cX10_christmases 27 = .ok (.istore 4, 2) := by decide +kernel
theorem dX10_christmases_29 : decode cX10_christmases 29 = .ok (.iconst 0, 1) := by decide +kernel
theorem dX10_christmases_30 : decode cX10_christmases 30 = .ok (.istore 5, 2) := by decide +kernel
theorem dX10_christmases_32 : decode cX10_christmases 32 = .ok (.iload 5, 2) := by decide +kernel
theorem dX10_christmases_34 : decode cX10_christmases 34 = .ok (.aload_n 0, 1) := by decide +kernel
theorem dX10_christmases_35 : decode cX10_christmases 35 = .ok (.getfield 89, 3) := by decide +kernel
theorem dX10_christmases_38 : decode cX10_christmases 38 = .ok (.if_icmp .ge 34, 3) := by decide +kernel
theorem dX10_christmases_41 : decode cX10_christmases 41 = .ok (.aload_n 0, 1) := by decide +kernel
theorem dX10_christmases_42 : decode cX10_christmases 42 = .ok (.bipush 12, 2) := by decide +kernel
theorem dX10_christmases_44 : decode cX10_christmases 44 = .ok (.invokevirtual 314, 3) := by decide +kernel
theorem dX10_christmases_47 : decode cX10_christmases 47 = .ok (.aload_n 0, 1) := by decide +kernel
theorem dX10_christmases_48 : decode cX10_christmases 48 = .ok (.getfield 25, 3) := by decide +kernel
theorem dX10_christmases_51 : decode cX10_christmases 51 = .ok (.iload 5, 2) := by decide +kernel
theorem dX10_christmases_53 : decode cX10_christmases 53 = .ok (.iaload, 1) := by decide +kernel
theorem dX10_christmases_54 : decode cX10_christmases 54 = .ok (.if_icmp .ge 12, 3) := by decide +kernel
theorem dX10_christmases_57 : decode cX10_christmases 57 = .ok (.iload 4, 2) := by decide +kernel
theorem dX10_christmases_59 : decode cX10_christmases 59 = .ok (.iconst 1, 1) := by decide +kernel
theorem dX10_christmases_60 : decode cX10_christmases 60 = .ok (.iload 5, 2) := by decide +kernel
theorem dX10_christmases_62 : decode cX10_christmases 62 = .ok (.ishl, 1) := by decide +kernel
theorem dX10_christmases_63 : decode cX10_christmases 63 = .ok (.ior, 1) := by decide +kernel
theorem dX10_christmases_64 : decode cX10_christmases 64 = .ok (.istore 4, 2) := by decide +kernel
theorem dX10_christmases_66 : decode cX10_christmases 66 = .ok (.iinc 5 1, 3) := by decide +kernel
theorem dX10_christmases_69 : decode cX10_christmases 69 = .ok (.goto (-37), 3) := by decide +kernel
theorem dX10_christmases_72 : decode cX10_christmases 72 = .ok (.iload_n 2, 1) := by decide +kernel
theorem dX10_christmases_73 : decode cX10_christmases 73 = .ok (.aload_n 0, 1) := by decide +kernel
theorem dX10_christmases_74 : decode cX10_christmases 74 = .ok (.iload 4, 2) := by decide +kernel
theorem dX10_christmases_76 : decode cX10_christmases 76 = .ok (.invokevirtual 307, 3) := by decide +kernel
theorem dX10_christmases_79 : decode cX10_christmases 79 = .ok (.iadd, 1) := by decide +kernel
theorem dX10_christmases_80 : decode cX10_christmases 80 = .ok (.istore_n 2, 1) := by decide +kernel
theorem dX10_christmases_81 : decode cX10_christmases 81 = .ok (.iconst 0, 1) := by decide +kernel
theorem dX10_christmases_82 : decode cX10_christmases 82 = .ok (.istore 5, 2) := by decide +kernel
theorem dX10_christmases_84 : decode cX10_christmases 84 = .ok (.iload 5, 2) := by decide +kernel
theorem dX10_christmases_86 : decode cX10_christmases 86 = .ok (.bipush 12, 2) := by decide +kernel
theorem dX10_christmases_88 : decode cX10_christmases 88 = .ok (.if_icmp .ge 33, 3) := by decide +kernel
theorem dX10_christmases_91 : decode cX10_christmases 91 = .ok (.aload_n 0, 1) := by decide +kernel
theorem dX10_christmases_92 : decode cX10_christmases 92 = .ok (.getfield 9, 3) := by decide +kernel
theorem dX10_christmases_95 : decode cX10_christmases 95 = .ok (.iload 5, 2) := by decide +kernel
theorem dX10_christmases_97 : decode cX10_christmases 97 = .ok (.iaload, 1) := by decide +kernel
theorem dX10_christmases_98 : decode cX10_christmases 98 = .ok (.iconst (-1), 1) := by decide +kernel
theorem dX10_christmases_99 : decode cX10_christmases 99 = .ok (.if_icmp .ne 16, 3) := by decide +kernel
theorem dX10_christmases_102 : decode cX10_christmases 102 = .ok (.aload_n 0, 1) := by decide +kernel
theorem dX10_christmases_103 : decode cX10_christmases 103 = .ok (.getfield 9, 3) := by decide +kernel
theorem dX10_christmases_106 : decode cX10_christmases 106 = .ok (.iload 5, 2) := by decide +kernel
theorem dX10_christmases_108 : decode cX10_christmases 108 = .ok (.aload_n 0, 1) := by decide +kernel
theorem dX10_christmases_109 : decode cX10_christmases 109 = .ok (.bipush 8, 2) := by decide +kernel
theorem dX10_christmases_111 : decode cX10_christmases 111 = .ok (.invokevirtual 314, 3) := by decide +kernel
theorem dX10_christmases_114 : decode cX10_christmases 114 = .ok (.iastore, 1) := by decide +kernel
theorem dX10_christmases_115 : decode cX10_christmases 115 = .ok (.iinc 5 1, 3) := by decide +kernel
theorem dX10_christmases_118 : decode cX10_christmases 118 = .ok (.goto (-34), 3) := by decide +kernel
theorem dX10_christmases_121 : decode cX10_christmases 121 = .ok (.iinc 3 1, 3) := by decide +kernel
theorem dX10_christmases_124 : decode cX10_christmases 124 = .ok (.goto (-103), 3) := by decide +kernel
theorem dX10_christmases_127 : decode cX10_christmases 127 = .ok (.iload_n 2, 1) := by decide +kernel
theorem dX10_christmases_128 : decode cX10_christmases 128 = .ok (.ireturn, 1) := by decide +kernel
theorem dX10_seed_0 : decode cX10_seed 0 = .ok (.aload_n 0, 1) := by decide +kernel
theorem dX10_seed_1 : decode cX10_seed 1 = .ok (.getfield 81, 3) := by decide +kernel
theorem dX10_seed_4 : decode cX10_seed 4 = .ok (.istore_n 2, 1) := by decide +kernel
theorem dX10_seed_5 : decode cX10_seed 5 = .ok (.aload_n 0, 1) := by decide +kernel
theorem dX10_seed_6 : decode cX10_seed 6 = .ok (.iload_n 1, 1) := by decide +kernel
theorem dX10_seed_7 : decode cX10_seed 7 = .ok (.putfield 81, 3) := by decide +kernel
theorem dX10_seed_10 : decode cX10_seed 10 = .ok (.iload_n 2, 1) := by decide +kernel
theorem dX10_seed_11 : decode cX10_seed 11 = .ok (.ireturn, 1) := by decide +kernel
theorem dX10_keep_0 : decode cX10_keep 0 = .ok (.iconst 0, 1) := by decide +kernel
theorem dX10_keep_1 : decode cX10_keep 1 = .ok (.istore_n 2, 1) := by decide +kernel
theorem dX10_keep_2 : decode cX10_keep 2 = .ok (.iload_n 2, 1) := by decide +kernel
theorem dX10_keep_3 : decode cX10_keep 3 = .ok (.bipush 12, 2) := by decide +kernel
theorem dX10_keep_5 : decode cX10_keep 5 = .ok (.if_icmp .ge 18, 3) := by decide +kernel
theorem dX10_keep_8 : decode cX10_keep 8 = .ok (.aload_n 1, 1) := by decide +kernel
theorem dX10_keep_9 : decode cX10_keep 9 = .ok (.iload_n 2, 1) := by decide +kernel
theorem dX10_keep_10 : decode cX10_keep 10 = .ok (.aload_n 0, 1) := by decide +kernel
theorem dX10_keep_11 : decode cX10_keep 11 = .ok (.getfield 9, 3) := by decide +kernel
theorem dX10_keep_14 : decode cX10_keep 14 = .ok (.iload_n 2, 1) := by decide +kernel
theorem dX10_keep_15 : decode cX10_keep 15 = .ok (.iaload, 1) := by decide +kernel
theorem dX10_keep_16 : decode cX10_keep 16 = .ok (.iastore, 1) := by decide +kernel
theorem dX10_keep_17 : decode cX10_keep 17 = .ok (.iinc 2 1, 3) := by decide +kernel
theorem dX10_keep_20 : decode cX10_keep 20 = .ok (.goto (-18), 3) := by decide +kernel
theorem dX10_keep_23 : decode cX10_keep 23 = .ok (.iconst 0, 1) := by decide +kernel
theorem dX10_keep_24 : decode cX10_keep 24 = .ok (.istore_n 2, 1) := by decide +kernel
theorem dX10_keep_25 : decode cX10_keep 25 = .ok (.iload_n 2, 1) := by decide +kernel
theorem dX10_keep_26 : decode cX10_keep 26 = .ok (.bipush 8, 2) := by decide +kernel
theorem dX10_keep_28 : decode cX10_keep 28 = .ok (.if_icmp .ge 81, 3) := by decide +kernel
theorem dX10_keep_31 : decode cX10_keep 31 = .ok (.aload_n 1, 1) := by decide +kernel
theorem dX10_keep_32 : decode cX10_keep 32 = .ok (.bipush 12, 2) := by decide +kernel
theorem dX10_keep_34 : decode cX10_keep 34 = .ok (.iload_n 2, 1) := by decide +kernel
theorem dX10_keep_35 : decode cX10_keep 35 = .ok (.iadd, 1) := by decide +kernel
theorem dX10_keep_36 : decode cX10_keep 36 = .ok (.aload_n 0, 1) := by decide +kernel
theorem dX10_keep_37 : decode cX10_keep 37 = .ok (.getfield 13, 3) := by decide +kernel
theorem dX10_keep_40 : decode cX10_keep 40 = .ok (.iload_n 2, 1) := by decide +kernel
theorem dX10_keep_41 : decode cX10_keep 41 = .ok (.iaload, 1) := by decide +kernel
theorem dX10_keep_42 : decode cX10_keep 42 = .ok (.iastore, 1) := by decide +kernel
theorem dX10_keep_43 : decode cX10_keep 43 = .ok (.aload_n 1, 1) := by decide +kernel
theorem dX10_keep_44 : decode cX10_keep 44 = .ok (.bipush 20, 2) := by decide +kernel
theorem dX10_keep_46 : decode cX10_keep 46 = .ok (.iload_n 2, 1) := by decide +kernel
theorem dX10_keep_47 : decode cX10_keep 47 = .ok (.iadd, 1) := by decide +kernel
theorem dX10_keep_48 : decode cX10_keep 48 = .ok (.aload_n 0, 1) := by decide +kernel
theorem dX10_keep_49 : decode cX10_keep 49 = .ok (.getfield 16, 3) := by decide +kernel
theorem dX10_keep_52 : decode cX10_keep 52 = .ok (.iload_n 2, 1) := by decide +kernel
theorem dX10_keep_53 : decode cX10_keep 53 = .ok (.iaload, 1) := by decide +kernel
theorem dX10_keep_54 : decode cX10_keep 54 = .ok (.iastore, 1) := by decide +kernel
theorem dX10_keep_55 : decode cX10_keep 55 = .ok (.aload_n 1, 1) := by decide +kernel
theorem dX10_keep_56 : decode cX10_keep 56 = .ok (.bipush 28, 2) := by decide +kernel
theorem dX10_keep_58 : decode cX10_keep 58 = .ok (.iload_n 2, 1) := by decide +kernel
theorem dX10_keep_59 : decode cX10_keep 59 = .ok (.iadd, 1) := by decide +kernel
theorem dX10_keep_60 : decode cX10_keep 60 = .ok (.aload_n 0, 1) := by decide +kernel
theorem dX10_keep_61 : decode cX10_keep 61 = .ok (.getfield 19, 3) := by decide +kernel
theorem dX10_keep_64 : decode cX10_keep 64 = .ok (.iload_n 2, 1) := by decide +kernel
theorem dX10_keep_65 : decode cX10_keep 65 = .ok (.iaload, 1) := by decide +kernel
theorem dX10_keep_66 : decode cX10_keep 66 = .ok (.iastore, 1) := by decide +kernel
theorem dX10_keep_67 : decode cX10_keep 67 = .ok (.aload_n 1, 1) := by decide +kernel
theorem dX10_keep_68 : decode cX10_keep 68 = .ok (.bipush 36, 2) := by decide +kernel
theorem dX10_keep_70 : decode cX10_keep 70 = .ok (.iload_n 2, 1) := by decide +kernel
theorem dX10_keep_71 : decode cX10_keep 71 = .ok (.iadd, 1) := by decide +kernel
theorem dX10_keep_72 : decode cX10_keep 72 = .ok (.aload_n 0, 1) := by decide +kernel
theorem dX10_keep_73 : decode cX10_keep 73 = .ok (.getfield 22, 3) := by decide +kernel
theorem dX10_keep_76 : decode cX10_keep 76 = .ok (.iload_n 2, 1) := by decide +kernel
theorem dX10_keep_77 : decode cX10_keep 77 = .ok (.iaload, 1) := by decide +kernel
theorem dX10_keep_78 : decode cX10_keep 78 = .ok (.iastore, 1) := by decide +kernel
theorem dX10_keep_79 : decode cX10_keep 79 = .ok (.aload_n 1, 1) := by decide +kernel
theorem dX10_keep_80 : decode cX10_keep 80 = .ok (.bipush 44, 2) := by decide +kernel
theorem dX10_keep_82 : decode cX10_keep 82 = .ok (.iload_n 2, 1) := by decide +kernel
theorem dX10_keep_83 : decode cX10_keep 83 = .ok (.iadd, 1) := by decide +kernel
theorem dX10_keep_84 : decode cX10_keep 84 = .ok (.aload_n 0, 1) := by decide +kernel
theorem dX10_keep_85 : decode cX10_keep 85 = .ok (.getfield 25, 3) := by decide +kernel
theorem dX10_keep_88 : decode cX10_keep 88 = .ok (.iload_n 2, 1) := by decide +kernel
theorem dX10_keep_89 : decode cX10_keep 89 = .ok (.iaload, 1) := by decide +kernel
theorem dX10_keep_90 : decode cX10_keep 90 = .ok (.iastore, 1) := by decide +kernel
theorem dX10_keep_91 : decode cX10_keep 91 = .ok (.aload_n 1, 1) := by decide +kernel
theorem dX10_keep_92 : decode cX10_keep 92 = .ok (.bipush 52, 2) := by decide +kernel
theorem dX10_keep_94 : decode cX10_keep 94 = .ok (.iload_n 2, 1) := by decide +kernel
theorem dX10_keep_95 : decode cX10_keep 95 = .ok (.iadd, 1) := by decide +kernel
theorem dX10_keep_96 : decode cX10_keep 96 = .ok (.aload_n 0, 1) := by decide +kernel
theorem dX10_keep_97 : decode cX10_keep 97 = .ok (.getfield 28, 3) := by decide +kernel
theorem dX10_keep_100 : decode cX10_keep 100 = .ok (.iload_n 2, 1) := by decide +kernel
theorem dX10_keep_101 : decode cX10_keep 101 = .ok (.iaload, 1) := by decide +kernel
theorem dX10_keep_102 : decode cX10_keep 102 = .ok (.iastore, 1) := by decide +kernel
theorem dX10_keep_103 : decode cX10_keep 103 = .ok (.iinc 2 1, 3) := by decide +kernel
theorem dX10_keep_106 : decode cX10_keep 106 = .ok (.goto (-81), 3) := by decide +kernel
theorem dX10_keep_109 : decode cX10_keep 109 = .ok (.iconst 0, 1) := by decide +kernel
theorem dX10_keep_110 : decode cX10_keep 110 = .ok (.istore_n 2, 1) := by decide +kernel
theorem dX10_keep_111 : decode cX10_keep 111 = .ok (.iload_n 2, 1) := by decide +kernel
theorem dX10_keep_112 : decode cX10_keep 112 = .ok (.bipush 64, 2) := by decide +kernel
theorem dX10_keep_114 : decode cX10_keep 114 = .ok (.if_icmp .ge 21, 3) := by decide +kernel
theorem dX10_keep_117 : decode cX10_keep 117 = .ok (.aload_n 1, 1) := by decide +kernel
theorem dX10_keep_118 : decode cX10_keep 118 = .ok (.bipush 60, 2) := by decide +kernel
theorem dX10_keep_120 : decode cX10_keep 120 = .ok (.iload_n 2, 1) := by decide +kernel
theorem dX10_keep_121 : decode cX10_keep 121 = .ok (.iadd, 1) := by decide +kernel
theorem dX10_keep_122 : decode cX10_keep 122 = .ok (.aload_n 0, 1) := by decide +kernel
theorem dX10_keep_123 : decode cX10_keep 123 = .ok (.getfield 31, 3) := by decide +kernel
theorem dX10_keep_126 : decode cX10_keep 126 = .ok (.iload_n 2, 1) := by decide +kernel
theorem dX10_keep_127 : decode cX10_keep 127 = .ok (.iaload, 1) := by decide +kernel
theorem dX10_keep_128 : decode cX10_keep 128 = .ok (.iastore, 1) := by decide +kernel
theorem dX10_keep_129 : decode cX10_keep 129 = .ok (.iinc 2 1, 3) := by decide +kernel
theorem dX10_keep_132 : decode cX10_keep 132 = .ok (.goto (-21), 3) := by decide +kernel
theorem dX10_keep_135 : decode cX10_keep 135 = .ok (.aload_n 1, 1) := by decide +kernel
theorem dX10_keep_136 : decode cX10_keep 136 = .ok (.bipush 124, 2) := by decide +kernel
theorem dX10_keep_138 : decode cX10_keep 138 = .ok (.aload_n 0, 1) := by decide +kernel
theorem dX10_keep_139 : decode cX10_keep 139 = .ok (.getfield 89, 3) := by decide +kernel
theorem dX10_keep_142 : decode cX10_keep 142 = .ok (.iastore, 1) := by decide +kernel
theorem dX10_keep_143 : decode cX10_keep 143 = .ok (.aload_n 1, 1) := by decide +kernel
theorem dX10_keep_144 : decode cX10_keep 144 = .ok (.bipush 125, 2) := by decide +kernel
theorem dX10_keep_146 : decode cX10_keep 146 = .ok (.aload_n 0, 1) := by decide +kernel
theorem dX10_keep_147 : decode cX10_keep 147 = .ok (.getfield 304, 3) := by decide +kernel
theorem dX10_keep_150 : decode cX10_keep 150 = .ok (.iastore, 1) := by decide +kernel
theorem dX10_keep_151 : decode cX10_keep 151 = .ok (.aload_n 1, 1) := by decide +kernel
theorem dX10_keep_152 : decode cX10_keep 152 = .ok (.bipush 126, 2) := by decide +kernel
theorem dX10_keep_154 : decode cX10_keep 154 = .ok (.aload_n 0, 1) := by decide +kernel
theorem dX10_keep_155 : decode cX10_keep 155 = .ok (.getfield 81, 3) := by decide +kernel
theorem dX10_keep_158 : decode cX10_keep 158 = .ok (.iastore, 1) := by decide +kernel
theorem dX10_keep_159 : decode cX10_keep 159 = .ok (.return_, 1) := by decide +kernel
theorem dX10_again_0 : decode cX10_again 0 = .ok (.iconst 0, 1) := by decide +kernel
theorem dX10_again_1 : decode cX10_again 1 = .ok (.istore_n 2, 1) := by decide +kernel
theorem dX10_again_2 : decode cX10_again 2 = .ok (.iload_n 2, 1) := by decide +kernel
theorem dX10_again_3 : decode cX10_again 3 = .ok (.bipush 12, 2) := by decide +kernel
theorem dX10_again_5 : decode cX10_again 5 = .ok (.if_icmp .ge 18, 3) := by decide +kernel
theorem dX10_again_8 : decode cX10_again 8 = .ok (.aload_n 0, 1) := by decide +kernel
theorem dX10_again_9 : decode cX10_again 9 = .ok (.getfield 9, 3) := by decide +kernel
theorem dX10_again_12 : decode cX10_again 12 = .ok (.iload_n 2, 1) := by decide +kernel
theorem dX10_again_13 : decode cX10_again 13 = .ok (.aload_n 1, 1) := by decide +kernel
theorem dX10_again_14 : decode cX10_again 14 = .ok (.iload_n 2, 1) := by decide +kernel
theorem dX10_again_15 : decode cX10_again 15 = .ok (.iaload, 1) := by decide +kernel
theorem dX10_again_16 : decode cX10_again 16 = .ok (.iastore, 1) := by decide +kernel
theorem dX10_again_17 : decode cX10_again 17 = .ok (.iinc 2 1, 3) := by decide +kernel
theorem dX10_again_20 : decode cX10_again 20 = .ok (.goto (-18), 3) := by decide +kernel
theorem dX10_again_23 : decode cX10_again 23 = .ok (.iconst 0, 1) := by decide +kernel
theorem dX10_again_24 : decode cX10_again 24 = .ok (.istore_n 2, 1) := by decide +kernel
theorem dX10_again_25 : decode cX10_again 25 = .ok (.iload_n 2, 1) := by decide +kernel
theorem dX10_again_26 : decode cX10_again 26 = .ok (.bipush 8, 2) := by decide +kernel
theorem dX10_again_28 : decode cX10_again 28 = .ok (.if_icmp .ge 81, 3) := by decide +kernel
theorem dX10_again_31 : decode cX10_again 31 = .ok (.aload_n 0, 1) := by decide +kernel
theorem dX10_again_32 : decode cX10_again 32 = .ok (.getfield 13, 3) := by decide +kernel
theorem dX10_again_35 : decode cX10_again 35 = .ok (.iload_n 2, 1) := by decide +kernel
theorem dX10_again_36 : decode cX10_again 36 = .ok (.aload_n 1, 1) := by decide +kernel
theorem dX10_again_37 : decode cX10_again 37 = .ok (.bipush 12, 2) := by decide +kernel
theorem dX10_again_39 : decode cX10_again 39 = .ok (.iload_n 2, 1) := by decide +kernel
theorem dX10_again_40 : decode cX10_again 40 = .ok (.iadd, 1) := by decide +kernel
theorem dX10_again_41 : decode cX10_again 41 = .ok (.iaload, 1) := by decide +kernel
theorem dX10_again_42 : decode cX10_again 42 = .ok (.iastore, 1) := by decide +kernel
theorem dX10_again_43 : decode cX10_again 43 = .ok (.aload_n 0, 1) := by decide +kernel
theorem dX10_again_44 : decode cX10_again 44 = .ok (.getfield 16, 3) := by decide +kernel
theorem dX10_again_47 : decode cX10_again 47 = .ok (.iload_n 2, 1) := by decide +kernel
theorem dX10_again_48 : decode cX10_again 48 = .ok (.aload_n 1, 1) := by decide +kernel
theorem dX10_again_49 : decode cX10_again 49 = .ok (.bipush 20, 2) := by decide +kernel
theorem dX10_again_51 : decode cX10_again 51 = .ok (.iload_n 2, 1) := by decide +kernel
theorem dX10_again_52 : decode cX10_again 52 = .ok (.iadd, 1) := by decide +kernel
theorem dX10_again_53 : decode cX10_again 53 = .ok (.iaload, 1) := by decide +kernel
theorem dX10_again_54 : decode cX10_again 54 = .ok (.iastore, 1) := by decide +kernel
theorem dX10_again_55 : decode cX10_again 55 = .ok (.aload_n 0, 1) := by decide +kernel
theorem dX10_again_56 : decode cX10_again 56 = .ok (.getfield 19, 3) := by decide +kernel
theorem dX10_again_59 : decode cX10_again 59 = .ok (.iload_n 2, 1) := by decide +kernel
theorem dX10_again_60 : decode cX10_again 60 = .ok (.aload_n 1, 1) := by decide +kernel
theorem dX10_again_61 : decode cX10_again 61 = .ok (.bipush 28, 2) := by decide +kernel
theorem dX10_again_63 : decode cX10_again 63 = .ok (.iload_n 2, 1) := by decide +kernel
theorem dX10_again_64 : decode cX10_again 64 = .ok (.iadd, 1) := by decide +kernel
theorem dX10_again_65 : decode cX10_again 65 = .ok (.iaload, 1) := by decide +kernel
theorem dX10_again_66 : decode cX10_again 66 = .ok (.iastore, 1) := by decide +kernel
theorem dX10_again_67 : decode cX10_again 67 = .ok (.aload_n 0, 1) := by decide +kernel
theorem dX10_again_68 : decode cX10_again 68 = .ok (.getfield 22, 3) := by decide +kernel
theorem dX10_again_71 : decode cX10_again 71 = .ok (.iload_n 2, 1) := by decide +kernel
theorem dX10_again_72 : decode cX10_again 72 = .ok (.aload_n 1, 1) := by decide +kernel
theorem dX10_again_73 : decode cX10_again 73 = .ok (.bipush 36, 2) := by decide +kernel
theorem dX10_again_75 : decode cX10_again 75 = .ok (.iload_n 2, 1) := by decide +kernel
theorem dX10_again_76 : decode cX10_again 76 = .ok (.iadd, 1) := by decide +kernel
theorem dX10_again_77 : decode cX10_again 77 = .ok (.iaload, 1) := by decide +kernel
theorem dX10_again_78 : decode cX10_again 78 = .ok (.iastore, 1) := by decide +kernel
theorem dX10_again_79 : decode cX10_again 79 = .ok (.aload_n 0, 1) := by decide +kernel
theorem dX10_again_80 : decode cX10_again 80 = .ok (.getfield 25, 3) := by decide +kernel
theorem dX10_again_83 : decode cX10_again 83 = .ok (.iload_n 2, 1) := by decide +kernel
theorem dX10_again_84 : decode cX10_again 84 = .ok (.aload_n 1, 1) := by decide +kernel
theorem dX10_again_85 : decode cX10_again 85 = .ok (.bipush 44, 2) := by decide +kernel
theorem dX10_again_87 : decode cX10_again 87 = .ok (.iload_n 2, 1) := by decide +kernel
theorem dX10_again_88 : decode cX10_again 88 = .ok (.iadd, 1) := by decide +kernel
theorem dX10_again_89 : decode cX10_again 89 = .ok (.iaload, 1) := by decide +kernel
theorem dX10_again_90 : decode cX10_again 90 = .ok (.iastore, 1) := by decide +kernel
theorem dX10_again_91 : decode cX10_again 91 = .ok (.aload_n 0, 1) := by decide +kernel
theorem dX10_again_92 : decode cX10_again 92 = .ok (.getfield 28, 3) := by decide +kernel
theorem dX10_again_95 : decode cX10_again 95 = .ok (.iload_n 2, 1) := by decide +kernel
theorem dX10_again_96 : decode cX10_again 96 = .ok (.aload_n 1, 1) := by decide +kernel
theorem dX10_again_97 : decode cX10_again 97 = .ok (.bipush 52, 2) := by decide +kernel
theorem dX10_again_99 : decode cX10_again 99 = .ok (.iload_n 2, 1) := by decide +kernel
theorem dX10_again_100 : decode cX10_again 100 = .ok (.iadd, 1) := by decide +kernel
theorem dX10_again_101 : decode cX10_again 101 = .ok (.iaload, 1) := by decide +kernel
theorem dX10_again_102 : decode cX10_again 102 = .ok (.iastore, 1) := by decide +kernel
theorem dX10_again_103 : decode cX10_again 103 = .ok (.iinc 2 1, 3) := by decide +kernel
theorem dX10_again_106 : decode cX10_again 106 = .ok (.goto (-81), 3) := by decide +kernel
theorem dX10_again_109 : decode cX10_again 109 = .ok (.iconst 0, 1) := by decide +kernel
theorem dX10_again_110 : decode cX10_again 110 = .ok (.istore_n 2, 1) := by decide +kernel
theorem dX10_again_111 : decode cX10_again 111 = .ok (.iload_n 2, 1) := by decide +kernel
theorem dX10_again_112 : decode cX10_again 112 = .ok (.bipush 64, 2) := by decide +kernel
theorem dX10_again_114 : decode cX10_again 114 = .ok (.if_icmp .ge 21, 3) := by decide +kernel
theorem dX10_again_117 : decode cX10_again 117 = .ok (.aload_n 0, 1) := by decide +kernel
theorem dX10_again_118 : decode cX10_again 118 = .ok (.getfield 31, 3) := by decide +kernel
theorem dX10_again_121 : decode cX10_again 121 = .ok (.iload_n 2, 1) := by decide +kernel
theorem dX10_again_122 : decode cX10_again 122 = .ok (.aload_n 1, 1) := by decide +kernel
theorem dX10_again_123 : decode cX10_again 123 = .ok (.bipush 60, 2) := by decide +kernel
theorem dX10_again_125 : decode cX10_again 125 = .ok (.iload_n 2, 1) := by decide +kernel
theorem dX10_again_126 : decode cX10_again 126 = .ok (.iadd, 1) := by decide +kernel
theorem dX10_again_127 : decode cX10_again 127 = .ok (.iaload, 1) := by decide +kernel
theorem dX10_again_128 : decode cX10_again 128 = .ok (.iastore, 1) := by decide +kernel
theorem dX10_again_129 : decode cX10_again 129 = .ok (.iinc 2 1, 3) := by decide +kernel
theorem dX10_again_132 : decode cX10_again 132 = .ok (.goto (-21), 3) := by decide +kernel
theorem dX10_again_135 : decode cX10_again 135 = .ok (.aload_n 0, 1) := by decide +kernel
theorem dX10_again_136 : decode cX10_again 136 = .ok (.aload_n 1, 1) := by decide +kernel
theorem dX10_again_137 : decode cX10_again 137 = .ok (.bipush 124, 2) := by decide +kernel
theorem dX10_again_139 : decode cX10_again 139 = .ok (.iaload, 1) := by decide +kernel
theorem dX10_again_140 : decode cX10_again 140 = .ok (.putfield 89, 3) := by decide +kernel
theorem dX10_again_143 : decode cX10_again 143 = .ok (.aload_n 0, 1) := by decide +kernel
theorem dX10_again_144 : decode cX10_again 144 = .ok (.aload_n 1, 1) := by decide +kernel
theorem dX10_again_145 : decode cX10_again 145 = .ok (.bipush 125, 2) := by decide +kernel
theorem dX10_again_147 : decode cX10_again 147 = .ok (.iaload, 1) := by decide +kernel
theorem dX10_again_148 : decode cX10_again 148 = .ok (.putfield 304, 3) := by decide +kernel
theorem dX10_again_151 : decode cX10_again 151 = .ok (.aload_n 0, 1) := by decide +kernel
theorem dX10_again_152 : decode cX10_again 152 = .ok (.aload_n 1, 1) := by decide +kernel
theorem dX10_again_153 : decode cX10_again 153 = .ok (.bipush 126, 2) := by decide +kernel
theorem dX10_again_155 : decode cX10_again 155 = .ok (.iaload, 1) := by decide +kernel
theorem dX10_again_156 : decode cX10_again 156 = .ok (.putfield 81, 3) := by decide +kernel
theorem dX10_again_159 : decode cX10_again 159 = .ok (.return_, 1) := by decide +kernel
theorem dX10_image_0 : decode cX10_image 0 = .ok (.aload_n 0, 1) := by decide +kernel
theorem dX10_image_1 : decode cX10_image 1 = .ok (.iconst 1, 1) := by decide +kernel
theorem dX10_image_2 : decode cX10_image 2 = .ok (.putfield 317, 3) := by decide +kernel
theorem dX10_image_5 : decode cX10_image 5 = .ok (.aload_n 0, 1) := by decide +kernel
theorem dX10_image_6 : decode cX10_image 6 = .ok (.aload_n 0, 1) := by decide +kernel
theorem dX10_image_7 : decode cX10_image 7 = .ok (.getfield 50, 3) := by decide +kernel
theorem dX10_image_10 : decode cX10_image 10 = .ok (.invokevirtual 183, 3) := by decide +kernel
theorem dX10_image_13 : decode cX10_image 13 = .ok (.iconst 1, 1) := by decide +kernel
theorem dX10_image_14 : decode cX10_image 14 = .ok (.ireturn, 1) := by decide +kernel
theorem dX10_back_0 : decode cX10_back 0 = .ok (.aload_n 0, 1) := by decide +kernel
theorem dX10_back_1 : decode cX10_back 1 = .ok (.getfield 317, 3) := by decide +kernel
theorem dX10_back_4 : decode cX10_back 4 = .ok (.ifCond .ne 10, 3) := by decide +kernel
theorem dX10_back_7 : decode cX10_back 7 = .ok (.aload_n 0, 1) := by decide +kernel
theorem dX10_back_8 : decode cX10_back 8 = .ok (.bipush (-5), 2) := by decide +kernel
theorem dX10_back_10 : decode cX10_back 10 = .ok (.invokevirtual 96, 3) := by decide +kernel
theorem dX10_back_13 : decode cX10_back 13 = .ok (.ireturn, 1) := by decide +kernel
theorem dX10_back_14 : decode cX10_back 14 = .ok (.aload_n 0, 1) := by decide +kernel
theorem dX10_back_15 : decode cX10_back 15 = .ok (.aload_n 0, 1) := by decide +kernel
theorem dX10_back_16 : decode cX10_back 16 = .ok (.getfield 50, 3) := by decide +kernel
theorem dX10_back_19 : decode cX10_back 19 = .ok (.invokevirtual 191, 3) := by decide +kernel
theorem dX10_back_22 : decode cX10_back 22 = .ok (.iconst 0, 1) := by decide +kernel
theorem dX10_back_23 : decode cX10_back 23 = .ok (.istore_n 1, 1) := by decide +kernel
theorem dX10_back_24 : decode cX10_back 24 = .ok (.iload_n 1, 1) := by decide +kernel
theorem dX10_back_25 : decode cX10_back 25 = .ok (.bipush 8, 2) := by decide +kernel
theorem dX10_back_27 : decode cX10_back 27 = .ok (.if_icmp .ge 32, 3) := by decide +kernel
theorem dX10_back_30 : decode cX10_back 30 = .ok (.aload_n 0, 1) := by decide +kernel
theorem dX10_back_31 : decode cX10_back 31 = .ok (.getfield 37, 3) := by decide +kernel
theorem dX10_back_34 : decode cX10_back 34 = .ok (.iload_n 1, 1) := by decide +kernel
theorem dX10_back_35 : decode cX10_back 35 = .ok (.iaload, 1) := by decide +kernel
theorem dX10_back_36 : decode cX10_back 36 = .ok (.bipush 10, 2) := by decide +kernel
theorem dX10_back_38 : decode cX10_back 38 = .ok (.aload_n 0, 1) := by decide +kernel
theorem dX10_back_39 : decode cX10_back 39 = .ok (.getfield 89, 3) := by decide +kernel
theorem dX10_back_42 : decode cX10_back 42 = .ok (.iadd, 1) := by decide +kernel
theorem dX10_back_43 : decode cX10_back 43 = .ok (.if_icmp .lt 10, 3) := by decide +kernel
theorem dX10_back_46 : decode cX10_back 46 = .ok (.aload_n 0, 1) := by decide +kernel
theorem dX10_back_47 : decode cX10_back 47 = .ok (.getfield 37, 3) := by decide +kernel
theorem dX10_back_50 : decode cX10_back 50 = .ok (.iload_n 1, 1) := by decide +kernel
theorem dX10_back_51 : decode cX10_back 51 = .ok (.iconst (-1), 1) := by decide +kernel
theorem dX10_back_52 : decode cX10_back 52 = .ok (.iastore, 1) := by decide +kernel
theorem dX10_back_53 : decode cX10_back 53 = .ok (.iinc 1 1, 3) := by decide +kernel
theorem dX10_back_56 : decode cX10_back 56 = .ok (.goto (-32), 3) := by decide +kernel
theorem dX10_back_59 : decode cX10_back 59 = .ok (.iconst 1, 1) := by decide +kernel
theorem dX10_back_60 : decode cX10_back 60 = .ok (.ireturn, 1) := by decide +kernel
theorem dX10_status_0 : decode cX10_status 0 = .ok (.iconst 0, 1) := by decide +kernel
theorem dX10_status_1 : decode cX10_status 1 = .ok (.istore_n 2, 1) := by decide +kernel
theorem dX10_status_2 : decode cX10_status 2 = .ok (.iload_n 1, 1) := by decide +kernel
theorem dX10_status_3 : decode cX10_status 3 = .ok (.tableswitch 184 0 7 #[45, 50, 79, 109, 114, 145, 150, 155], 45) := by decide +kernel
theorem dX10_status_48 : decode cX10_status 48 = .ok (.aload_n 0, 1) := by decide +kernel
theorem dX10_status_49 : decode cX10_status 49 = .ok (.getfield 89, 3) := by decide +kernel
theorem dX10_status_52 : decode cX10_status 52 = .ok (.ireturn, 1) := by decide +kernel
theorem dX10_status_53 : decode cX10_status 53 = .ok (.iconst 0, 1) := by decide +kernel
theorem dX10_status_54 : decode cX10_status 54 = .ok (.istore_n 3, 1) := by decide +kernel
theorem dX10_status_55 : decode cX10_status 55 = .ok (.iload_n 3, 1) := by decide +kernel
theorem dX10_status_56 : decode cX10_status 56 = .ok (.bipush 12, 2) := by decide +kernel
theorem dX10_status_58 : decode cX10_status 58 = .ok (.if_icmp .ge 22, 3) := by decide +kernel
theorem dX10_status_61 : decode cX10_status 61 = .ok (.aload_n 0, 1) := by decide +kernel
theorem dX10_status_62 : decode cX10_status 62 = .ok (.getfield 9, 3) := by decide +kernel
theorem dX10_status_65 : decode cX10_status 65 = .ok (.iload_n 3, 1) := by decide +kernel
theorem dX10_status_66 : decode cX10_status 66 = .ok (.iaload, 1) := by decide +kernel
theorem dX10_status_67 : decode cX10_status 67 = .ok (.iconst (-1), 1) := by decide +kernel
theorem dX10_status_68 : decode cX10_status 68 = .ok (.if_icmp .eq 6, 3) := by decide +kernel
theorem dX10_status_71 : decode cX10_status 71 = .ok (.iinc 2 1, 3) := by decide +kernel
theorem dX10_status_74 : decode cX10_status 74 = .ok (.iinc 3 1, 3) := by decide +kernel
theorem dX10_status_77 : decode cX10_status 77 = .ok (.goto (-22), 3) := by decide +kernel
theorem dX10_status_80 : decode cX10_status 80 = .ok (.iload_n 2, 1) := by decide +kernel
theorem dX10_status_81 : decode cX10_status 81 = .ok (.ireturn, 1) := by decide +kernel
theorem dX10_status_82 : decode cX10_status 82 = .ok (.iconst 0, 1) := by decide +kernel
theorem dX10_status_83 : decode cX10_status 83 = .ok (.istore_n 3, 1) := by decide +kernel
theorem dX10_status_84 : decode cX10_status 84 = .ok (.iload_n 3, 1) := by decide +kernel
theorem dX10_status_85 : decode cX10_status 85 = .ok (.bipush 8, 2) := by decide +kernel
theorem dX10_status_87 : decode cX10_status 87 = .ok (.aload_n 0, 1) := by decide +kernel
theorem dX10_status_88 : decode cX10_status 88 = .ok (.getfield 89, 3) := by decide +kernel
theorem dX10_status_91 : decode cX10_status 91 = .ok (.imul, 1) := by decide +kernel
theorem dX10_status_92 : decode cX10_status 92 = .ok (.if_icmp .ge 18, 3) := by decide +kernel
theorem dX10_status_95 : decode cX10_status 95 = .ok (.iload_n 2, 1) := by decide +kernel
theorem dX10_status_96 : decode cX10_status 96 = .ok (.aload_n 0, 1) := by decide +kernel
theorem dX10_status_97 : decode cX10_status 97 = .ok (.getfield 31, 3) := by decide +kernel
theorem dX10_status_100 : decode cX10_status 100 = .ok (.iload_n 3, 1) := by decide +kernel
theorem dX10_status_101 : decode cX10_status 101 = .ok (.iaload, 1) := by decide +kernel
theorem dX10_status_102 : decode cX10_status 102 = .ok (.iadd, 1) := by decide +kernel
theorem dX10_status_103 : decode cX10_status 103 = .ok (.istore_n 2, 1) := by decide +kernel
theorem dX10_status_104 : decode cX10_status 104 = .ok (.iinc 3 1, 3) := by decide +kernel
theorem dX10_status_107 : decode cX10_status 107 = .ok (.goto (-23), 3) := by decide +kernel
theorem dX10_status_110 : decode cX10_status 110 = .ok (.iload_n 2, 1) := by decide +kernel
theorem dX10_status_111 : decode cX10_status 111 = .ok (.ireturn, 1) := by decide +kernel
theorem dX10_status_112 : decode cX10_status 112 = .ok (.aload_n 0, 1) := by decide +kernel
theorem dX10_status_113 : decode cX10_status 113 = .ok (.getfield 304, 3) := by decide +kernel
theorem dX10_status_116 : decode cX10_status 116 = .ok (.ireturn, 1) := by decide +kernel
theorem dX10_status_117 : decode cX10_status 117 = .ok (.iconst 0, 1) := by decide +kernel
theorem dX10_status_118 : decode cX10_status 118 = .ok (.istore_n 3, 1) := by decide +kernel
theorem dX10_status_119 : decode cX10_status 119 = .ok (.iload_n 3, 1) := by decide +kernel
theorem dX10_status_120 : decode cX10_status 120 = .ok (.aload_n 0, 1) := by decide +kernel
theorem dX10_status_121 : decode cX10_status 121 = .ok (.getfield 89, 3) := by decide +kernel
theorem dX10_status_124 : decode cX10_status 124 = .ok (.if_icmp .ge 22, 3) := by decide +kernel
theorem dX10_status_127 : decode cX10_status 127 = .ok (.aload_n 0, 1) := by decide +kernel
theorem dX10_status_128 : decode cX10_status 128 = .ok (.getfield 28, 3) := by decide +kernel
theorem dX10_status_131 : decode cX10_status 131 = .ok (.iload_n 3, 1) := by decide +kernel
theorem dX10_status_132 : decode cX10_status 132 = .ok (.iaload, 1) := by decide +kernel
theorem dX10_status_133 : decode cX10_status 133 = .ok (.iconst (-1), 1) := by decide +kernel
theorem dX10_status_134 : decode cX10_status 134 = .ok (.if_icmp .eq 6, 3) := by decide +kernel
theorem dX10_status_137 : decode cX10_status 137 = .ok (.iinc 2 1, 3) := by decide +kernel
theorem dX10_status_140 : decode cX10_status 140 = .ok (.iinc 3 1, 3) := by decide +kernel
theorem dX10_status_143 : decode cX10_status 143 = .ok (.goto (-24), 3) := by decide +kernel
theorem dX10_status_146 : decode cX10_status 146 = .ok (.iload_n 2, 1) := by decide +kernel
theorem dX10_status_147 : decode cX10_status 147 = .ok (.ireturn, 1) := by decide +kernel
theorem dX10_status_148 : decode cX10_status 148 = .ok (.aload_n 0, 1) := by decide +kernel
theorem dX10_status_149 : decode cX10_status 149 = .ok (.getfield 131, 3) := by decide +kernel
theorem dX10_status_152 : decode cX10_status 152 = .ok (.ireturn, 1) := by decide +kernel
theorem dX10_status_153 : decode cX10_status 153 = .ok (.aload_n 0, 1) := by decide +kernel
theorem dX10_status_154 : decode cX10_status 154 = .ok (.getfield 81, 3) := by decide +kernel
theorem dX10_status_157 : decode cX10_status 157 = .ok (.ireturn, 1) := by decide +kernel
theorem dX10_status_158 : decode cX10_status 158 = .ok (.iconst 0, 1) := by decide +kernel
theorem dX10_status_159 : decode cX10_status 159 = .ok (.istore_n 3, 1) := by decide +kernel
theorem dX10_status_160 : decode cX10_status 160 = .ok (.iload_n 3, 1) := by decide +kernel
theorem dX10_status_161 : decode cX10_status 161 = .ok (.bipush 8, 2) := by decide +kernel
theorem dX10_status_163 : decode cX10_status 163 = .ok (.if_icmp .ge 22, 3) := by decide +kernel
theorem dX10_status_166 : decode cX10_status 166 = .ok (.aload_n 0, 1) := by decide +kernel
theorem dX10_status_167 : decode cX10_status 167 = .ok (.getfield 37, 3) := by decide +kernel
theorem dX10_status_170 : decode cX10_status 170 = .ok (.iload_n 3, 1) := by decide +kernel
theorem dX10_status_171 : decode cX10_status 171 = .ok (.iaload, 1) := by decide +kernel
theorem dX10_status_172 : decode cX10_status 172 = .ok (.iconst (-1), 1) := by decide +kernel
theorem dX10_status_173 : decode cX10_status 173 = .ok (.if_icmp .eq 6, 3) := by decide +kernel
theorem dX10_status_176 : decode cX10_status 176 = .ok (.iinc 2 1, 3) := by decide +kernel
theorem dX10_status_179 : decode cX10_status 179 = .ok (.iinc 3 1, 3) := by decide +kernel
theorem dX10_status_182 : decode cX10_status 182 = .ok (.goto (-22), 3) := by decide +kernel
theorem dX10_status_185 : decode cX10_status 185 = .ok (.iload_n 2, 1) := by decide +kernel
theorem dX10_status_186 : decode cX10_status 186 = .ok (.ireturn, 1) := by decide +kernel
theorem dX10_status_187 : decode cX10_status 187 = .ok (.iload_n 1, 1) := by decide +kernel
theorem dX10_status_188 : decode cX10_status 188 = .ok (.bipush 12, 2) := by decide +kernel
theorem dX10_status_190 : decode cX10_status 190 = .ok (.bipush 16, 2) := by decide +kernel
theorem dX10_status_192 : decode cX10_status 192 = .ok (.invokestatic 85, 3) := by decide +kernel
theorem dX10_status_195 : decode cX10_status 195 = .ok (.ifCond .eq 15, 3) := by decide +kernel
theorem dX10_status_198 : decode cX10_status 198 = .ok (.aload_n 0, 1) := by decide +kernel
theorem dX10_status_199 : decode cX10_status 199 = .ok (.getfield 47, 3) := by decide +kernel
theorem dX10_status_202 : decode cX10_status 202 = .ok (.iload_n 1, 1) := by decide +kernel
theorem dX10_status_203 : decode cX10_status 203 = .ok (.bipush 10, 2) := by decide +kernel
theorem dX10_status_205 : decode cX10_status 205 = .ok (.isub, 1) := by decide +kernel
theorem dX10_status_206 : decode cX10_status 206 = .ok (.iaload, 1) := by decide +kernel
theorem dX10_status_207 : decode cX10_status 207 = .ok (.goto 4, 3) := by decide +kernel
theorem dX10_status_210 : decode cX10_status 210 = .ok (.iconst (-1), 1) := by decide +kernel
theorem dX10_status_211 : decode cX10_status 211 = .ok (.ireturn, 1) := by decide +kernel
