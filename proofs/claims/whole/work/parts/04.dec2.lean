theorem dX10_chainOf_32 : decode cX10_chainOf 32 = .ok (.aload_n 0, 1) := by decide +kernel
theorem dX10_chainOf_33 : decode cX10_chainOf 33 = .ok (.getfield 9, 3) := by decide +kernel
theorem dX10_chainOf_36 : decode cX10_chainOf 36 = .ok (.if_icmp .ge 38, 3) := by decide +kernel
theorem dX10_chainOf_39 : decode cX10_chainOf 39 = .ok (.aload_n 0, 1) := by decide +kernel
theorem dX10_chainOf_40 : decode cX10_chainOf 40 = .ok (.getfield 40, 3) := by decide +kernel
theorem dX10_chainOf_43 : decode cX10_chainOf 43 = .ok (.iload 4, 2) := by decide +kernel
theorem dX10_chainOf_45 : decode cX10_chainOf 45 = .ok (.invokevirtual 125, 3) := by decide +kernel
theorem dX10_chainOf_48 : decode cX10_chainOf 48 = .ok (.ifCond .ne 20, 3) := by decide +kernel
theorem dX10_chainOf_51 : decode cX10_chainOf 51 = .ok (.aload_n 0, 1) := by decide +kernel
theorem dX10_chainOf_52 : decode cX10_chainOf 52 = .ok (.iload 4, 2) := by decide +kernel
theorem dX10_chainOf_54 : decode cX10_chainOf 54 = .ok (.iload_n 2, 1) := by decide +kernel
theorem dX10_chainOf_55 : decode cX10_chainOf 55 = .ok (.invokevirtual 185, 3) := by decide +kernel
theorem dX10_chainOf_58 : decode cX10_chainOf 58 = .ok (.ifCond .eq 10, 3) := by decide +kernel
theorem dX10_chainOf_61 : decode cX10_chainOf 61 = .ok (.iload_n 2, 1) := by decide +kernel
theorem dX10_chainOf_62 : decode cX10_chainOf 62 = .ok (.iconst 1, 1) := by decide +kernel
theorem dX10_chainOf_63 : decode cX10_chainOf 63 = .ok (.iload 4, 2) := by decide +kernel
theorem dX10_chainOf_65 : decode cX10_chainOf 65 = .ok (.ishl, 1) := by decide +kernel
theorem dX10_chainOf_66 : decode cX10_chainOf 66 = .ok (.ior, 1) := by decide +kernel
theorem dX10_chainOf_67 : decode cX10_chainOf 67 = .ok (.istore_n 2, 1) := by decide +kernel
theorem dX10_chainOf_68 : decode cX10_chainOf 68 = .ok (.iinc 4 1, 3) := by decide +kernel
theorem dX10_chainOf_71 : decode cX10_chainOf 71 = .ok (.goto (-41), 3) := by decide +kernel
theorem dX10_chainOf_74 : decode cX10_chainOf 74 = .ok (.iinc 3 1, 3) := by decide +kernel
theorem dX10_chainOf_77 : decode cX10_chainOf 77 = .ok (.goto (-58), 3) := by decide +kernel
theorem dX10_chainOf_80 : decode cX10_chainOf 80 = .ok (.iload_n 2, 1) := by decide +kernel
theorem dX10_chainOf_81 : decode cX10_chainOf 81 = .ok (.ireturn, 1) := by decide +kernel
theorem dX10_isCloseToOne_0 : decode cX10_isCloseToOne 0 = .ok (.iconst 0, 1) := by decide +kernel
theorem dX10_isCloseToOne_1 : decode cX10_isCloseToOne 1 = .ok (.istore_n 3, 1) := by decide +kernel
theorem dX10_isCloseToOne_2 : decode cX10_isCloseToOne 2 = .ok (.iload_n 3, 1) := by decide +kernel
theorem dX10_isCloseToOne_3 : decode cX10_isCloseToOne 3 = .ok (.aload_n 0, 1) := by decide +kernel
theorem dX10_isCloseToOne_4 : decode cX10_isCloseToOne 4 = .ok (.getfield 9, 3) := by decide +kernel
theorem dX10_isCloseToOne_7 : decode cX10_isCloseToOne 7 = .ok (.if_icmp .ge 39, 3) := by decide +kernel
theorem dX10_isCloseToOne_10 : decode cX10_isCloseToOne 10 = .ok (.iload_n 2, 1) := by decide +kernel
theorem dX10_isCloseToOne_11 : decode cX10_isCloseToOne 11 = .ok (.iload_n 3, 1) := by decide +kernel
theorem dX10_isCloseToOne_12 : decode cX10_isCloseToOne 12 = .ok (.ishr, 1) := by decide +kernel
theorem dX10_isCloseToOne_13 : decode cX10_isCloseToOne 13 = .ok (.iconst 1, 1) := by decide +kernel
theorem dX10_isCloseToOne_14 : decode cX10_isCloseToOne 14 = .ok (.iand, 1) := by decide +kernel
theorem dX10_isCloseToOne_15 : decode cX10_isCloseToOne 15 = .ok (.ifCond .eq 25, 3) := by decide +kernel
theorem dX10_isCloseToOne_18 : decode cX10_isCloseToOne 18 = .ok (.aload_n 0, 1) := by decide +kernel
theorem dX10_isCloseToOne_19 : decode cX10_isCloseToOne 19 = .ok (.getfield 22, 3) := by decide +kernel
theorem dX10_isCloseToOne_22 : decode cX10_isCloseToOne 22 = .ok (.iload_n 3, 1) := by decide +kernel
theorem dX10_isCloseToOne_23 : decode cX10_isCloseToOne 23 = .ok (.iaload, 1) := by decide +kernel
theorem dX10_isCloseToOne_24 : decode cX10_isCloseToOne 24 = .ok (.aload_n 0, 1) := by decide +kernel
theorem dX10_isCloseToOne_25 : decode cX10_isCloseToOne 25 = .ok (.getfield 22, 3) := by decide +kernel
theorem dX10_isCloseToOne_28 : decode cX10_isCloseToOne 28 = .ok (.iload_n 1, 1) := by decide +kernel
theorem dX10_isCloseToOne_29 : decode cX10_isCloseToOne 29 = .ok (.iaload, 1) := by decide +kernel
theorem dX10_isCloseToOne_30 : decode cX10_isCloseToOne 30 = .ok (.isub, 1) := by decide +kernel
theorem dX10_isCloseToOne_31 : decode cX10_isCloseToOne 31 = .ok (.invokestatic 188, 3) := by decide +kernel
theorem dX10_isCloseToOne_34 : decode cX10_isCloseToOne 34 = .ok (.iconst 1, 1) := by decide +kernel
theorem dX10_isCloseToOne_35 : decode cX10_isCloseToOne 35 = .ok (.if_icmp .gt 5, 3) := by decide +kernel
theorem dX10_isCloseToOne_38 : decode cX10_isCloseToOne 38 = .ok (.iconst 1, 1) := by decide +kernel
theorem dX10_isCloseToOne_39 : decode cX10_isCloseToOne 39 = .ok (.ireturn, 1) := by decide +kernel
theorem dX10_isCloseToOne_40 : decode cX10_isCloseToOne 40 = .ok (.iinc 3 1, 3) := by decide +kernel
theorem dX10_isCloseToOne_43 : decode cX10_isCloseToOne 43 = .ok (.goto (-41), 3) := by decide +kernel
theorem dX10_isCloseToOne_46 : decode cX10_isCloseToOne 46 = .ok (.iconst 0, 1) := by decide +kernel
theorem dX10_isCloseToOne_47 : decode cX10_isCloseToOne 47 = .ok (.ireturn, 1) := by decide +kernel
theorem dX11_init_0 : decode cX11_init 0 = .ok (.aload_n 0, 1) := by decide +kernel
theorem dX11_init_1 : decode cX11_init 1 = .ok (.invokespecial 1, 3) := by decide +kernel
theorem dX11_init_4 : decode cX11_init 4 = .ok (.aload_n 0, 1) := by decide +kernel
theorem dX11_init_5 : decode cX11_init 5 = .ok (.bipush 6, 2) := by decide +kernel
theorem dX11_init_7 : decode cX11_init 7 = .ok (.anewarray 7, 3) := by decide +kernel
theorem dX11_init_10 : decode cX11_init 10 = .ok (.dup, 1) := by decide +kernel
theorem dX11_init_11 : decode cX11_init 11 = .ok (.iconst 0, 1) := by decide +kernel
theorem dX11_init_12 : decode cX11_init 12 = .ok (.new 7, 3) := by decide +kernel
theorem dX11_init_15 : decode cX11_init 15 = .ok (.dup, 1) := by decide +kernel
theorem dX11_init_16 : decode cX11_init 16 = .ok (.invokespecial 9, 3) := by decide +kernel
theorem dX11_init_19 : decode cX11_init 19 = .ok (.aastore, 1) := by decide +kernel
theorem dX11_init_20 : decode cX11_init 20 = .ok (.dup, 1) := by decide +kernel
theorem dX11_init_21 : decode cX11_init 21 = .ok (.iconst 1, 1) := by decide +kernel
theorem dX11_init_22 : decode cX11_init 22 = .ok (.new 10, 3) := by decide +kernel
theorem dX11_init_25 : decode cX11_init 25 = .ok (.dup, 1) := by decide +kernel
theorem dX11_init_26 : decode cX11_init 26 = .ok (.invokespecial 12, 3) := by decide +kernel
theorem dX11_init_29 : decode cX11_init 29 = .ok (.aastore, 1) := by decide +kernel
theorem dX11_init_30 : decode cX11_init 30 = .ok (.dup, 1) := by decide +kernel
theorem dX11_init_31 : decode cX11_init 31 = .ok (.iconst 2, 1) := by decide +kernel
theorem dX11_init_32 : decode cX11_init 32 = .ok (.new 13, 3) := by decide +kernel
theorem dX11_init_35 : decode cX11_init 35 = .ok (.dup, 1) := by decide +kernel
theorem dX11_init_36 : decode cX11_init 36 = .ok (.invokespecial 15, 3) := by decide +kernel
theorem dX11_init_39 : decode cX11_init 39 = .ok (.aastore, 1) := by decide +kernel
theorem dX11_init_40 : decode cX11_init 40 = .ok (.dup, 1) := by decide +kernel
theorem dX11_init_41 : decode cX11_init 41 = .ok (.iconst 3, 1) := by decide +kernel
theorem dX11_init_42 : decode cX11_init 42 = .ok (.new 16, 3) := by decide +kernel
theorem dX11_init_45 : decode cX11_init 45 = .ok (.dup, 1) := by decide +kernel
theorem dX11_init_46 : decode cX11_init 46 = .ok (.invokespecial 18, 3) := by decide +kernel
theorem dX11_init_49 : decode cX11_init 49 = .ok (.aastore, 1) := by decide +kernel
theorem dX11_init_50 : decode cX11_init 50 = .ok (.dup, 1) := by decide +kernel
theorem dX11_init_51 : decode cX11_init 51 = .ok (.iconst 4, 1) := by decide +kernel
theorem dX11_init_52 : decode cX11_init 52 = .ok (.new 19, 3) := by decide +kernel
theorem dX11_init_55 : decode cX11_init 55 = .ok (.dup, 1) := by decide +kernel
theorem dX11_init_56 : decode cX11_init 56 = .ok (.invokespecial 21, 3) := by decide +kernel
theorem dX11_init_59 : decode cX11_init 59 = .ok (.aastore, 1) := by decide +kernel
theorem dX11_init_60 : decode cX11_init 60 = .ok (.dup, 1) := by decide +kernel
theorem dX11_init_61 : decode cX11_init 61 = .ok (.iconst 5, 1) := by decide +kernel
theorem dX11_init_62 : decode cX11_init 62 = .ok (.new 22, 3) := by decide +kernel
theorem dX11_init_65 : decode cX11_init 65 = .ok (.dup, 1) := by decide +kernel
theorem dX11_init_66 : decode cX11_init 66 = .ok (.invokespecial 24, 3) := by decide +kernel
theorem dX11_init_69 : decode cX11_init 69 = .ok (.aastore, 1) := by decide +kernel
theorem dX11_init_70 : decode cX11_init 70 = .ok (.putfield 25, 3) := by decide +kernel
theorem dX11_init_73 : decode cX11_init 73 = .ok (.aload_n 0, 1) := by decide +kernel
theorem dX11_init_74 : decode cX11_init 74 = .ok (.new 31, 3) := by decide +kernel
theorem dX11_init_77 : decode cX11_init 77 = .ok (.dup, 1) := by decide +kernel
theorem dX11_init_78 : decode cX11_init 78 = .ok (.aload_n 0, 1) := by decide +kernel
theorem dX11_init_79 : decode cX11_init 79 = .ok (.getfield 25, 3) := by decide +kernel
theorem dX11_init_82 : decode cX11_init 82 = .ok (.invokespecial 33, 3) := by decide +kernel
theorem dX11_init_85 : decode cX11_init 85 = .ok (.putfield 36, 3) := by decide +kernel
theorem dX11_init_88 : decode cX11_init 88 = .ok (.aload_n 0, 1) := by decide +kernel
theorem dX11_init_89 : decode cX11_init 89 = .ok (.new 31, 3) := by decide +kernel
theorem dX11_init_92 : decode cX11_init 92 = .ok (.dup, 1) := by decide +kernel
theorem dX11_init_93 : decode cX11_init 93 = .ok (.aload_n 0, 1) := by decide +kernel
theorem dX11_init_94 : decode cX11_init 94 = .ok (.getfield 25, 3) := by decide +kernel
theorem dX11_init_97 : decode cX11_init 97 = .ok (.invokespecial 33, 3) := by decide +kernel
theorem dX11_init_100 : decode cX11_init 100 = .ok (.putfield 40, 3) := by decide +kernel
theorem dX11_init_103 : decode cX11_init 103 = .ok (.aload_n 0, 1) := by decide +kernel
theorem dX11_init_104 : decode cX11_init 104 = .ok (.iconst 0, 1) := by decide +kernel
theorem dX11_init_105 : decode cX11_init 105 = .ok (.putfield 43, 3) := by decide +kernel
theorem dX11_init_108 : decode cX11_init 108 = .ok (.aload_n 0, 1) := by decide +kernel
theorem dX11_init_109 : decode cX11_init 109 = .ok (.new 47, 3) := by decide +kernel
theorem dX11_init_112 : decode cX11_init 112 = .ok (.dup, 1) := by decide +kernel
theorem dX11_init_113 : decode cX11_init 113 = .ok (.aload_n 0, 1) := by decide +kernel
theorem dX11_init_114 : decode cX11_init 114 = .ok (.getfield 36, 3) := by decide +kernel
theorem dX11_init_117 : decode cX11_init 117 = .ok (.invokespecial 49, 3) := by decide +kernel
theorem dX11_init_120 : decode cX11_init 120 = .ok (.putfield 52, 3) := by decide +kernel
theorem dX11_init_123 : decode cX11_init 123 = .ok (.aload_n 0, 1) := by decide +kernel
theorem dX11_init_124 : decode cX11_init 124 = .ok (.new 56, 3) := by decide +kernel
theorem dX11_init_127 : decode cX11_init 127 = .ok (.dup, 1) := by decide +kernel
theorem dX11_init_128 : decode cX11_init 128 = .ok (.invokespecial 58, 3) := by decide +kernel
theorem dX11_init_131 : decode cX11_init 131 = .ok (.putfield 59, 3) := by decide +kernel
theorem dX11_init_134 : decode cX11_init 134 = .ok (.aload_n 0, 1) := by decide +kernel
theorem dX11_init_135 : decode cX11_init 135 = .ok (.sipush 200, 3) := by decide +kernel
theorem dX11_init_138 : decode cX11_init 138 = .ok (.newarray .byte, 2) := by decide +kernel
theorem dX11_init_140 : decode cX11_init 140 = .ok (.putfield 63, 3) := by decide +kernel
theorem dX11_init_143 : decode cX11_init 143 = .ok (.aload_n 0, 1) := by decide +kernel
theorem dX11_init_144 : decode cX11_init 144 = .ok (.iconst 0, 1) := by decide +kernel
theorem dX11_init_145 : decode cX11_init 145 = .ok (.putfield 67, 3) := by decide +kernel
theorem dX11_init_148 : decode cX11_init 148 = .ok (.aload_n 0, 1) := by decide +kernel
theorem dX11_init_149 : decode cX11_init 149 = .ok (.new 71, 3) := by decide +kernel
theorem dX11_init_152 : decode cX11_init 152 = .ok (.dup, 1) := by decide +kernel
theorem dX11_init_153 : decode cX11_init 153 = .ok (.invokespecial 73, 3) := by decide +kernel
theorem dX11_init_156 : decode cX11_init 156 = .ok (.putfield 74, 3) := by decide +kernel
theorem dX11_init_159 : decode cX11_init 159 = .ok (.aload_n 0, 1) := by decide +kernel
theorem dX11_init_160 : decode cX11_init 160 = .ok (.iconst 4, 1) := by decide +kernel
theorem dX11_init_161 : decode cX11_init 161 = .ok (.iconst 3, 1) := by decide +kernel
theorem dX11_init_162 : decode cX11_init 162 = .ok (.multianewarray 78 2, 4) := by decide +kernel
theorem dX11_init_166 : decode cX11_init 166 = .ok (.putfield 80, 3) := by decide +kernel
theorem dX11_init_169 : decode cX11_init 169 = .ok (.aload_n 0, 1) := by decide +kernel
theorem dX11_init_170 : decode cX11_init 170 = .ok (.iconst 0, 1) := by decide +kernel
theorem dX11_init_171 : decode cX11_init 171 = .ok (.putfield 83, 3) := by decide +kernel
theorem dX11_init_174 : decode cX11_init 174 = .ok (.aload_n 0, 1) := by decide +kernel
theorem dX11_init_175 : decode cX11_init 175 = .ok (.iconst 4, 1) := by decide +kernel
theorem dX11_init_176 : decode cX11_init 176 = .ok (.newarray .int, 2) := by decide +kernel
theorem dX11_init_178 : decode cX11_init 178 = .ok (.putfield 86, 3) := by decide +kernel
theorem dX11_init_181 : decode cX11_init 181 = .ok (.aload_n 0, 1) := by decide +kernel
theorem dX11_init_182 : decode cX11_init 182 = .ok (.iconst 4, 1) := by decide +kernel
theorem dX11_init_183 : decode cX11_init 183 = .ok (.newarray .int, 2) := by decide +kernel
theorem dX11_init_185 : decode cX11_init 185 = .ok (.putfield 90, 3) := by decide +kernel
theorem dX11_init_188 : decode cX11_init 188 = .ok (.aload_n 0, 1) := by decide +kernel
theorem dX11_init_189 : decode cX11_init 189 = .ok (.iconst 4, 1) := by decide +kernel
theorem dX11_init_190 : decode cX11_init 190 = .ok (.bipush 40, 2) := by decide +kernel
theorem dX11_init_192 : decode cX11_init 192 = .ok (.multianewarray 78 2, 4) := by decide +kernel
theorem dX11_init_196 : decode cX11_init 196 = .ok (.putfield 93, 3) := by decide +kernel
theorem dX11_init_199 : decode cX11_init 199 = .ok (.aload_n 0, 1) := by decide +kernel
theorem dX11_init_200 : decode cX11_init 200 = .ok (.iconst 4, 1) := by decide +kernel
theorem dX11_init_201 : decode cX11_init 201 = .ok (.newarray .int, 2) := by decide +kernel
theorem dX11_init_203 : decode cX11_init 203 = .ok (.putfield 96, 3) := by decide +kernel
theorem dX11_init_206 : decode cX11_init 206 = .ok (.aload_n 0, 1) := by decide +kernel
theorem dX11_init_207 : decode cX11_init 207 = .ok (.iconst 4, 1) := by decide +kernel
theorem dX11_init_208 : decode cX11_init 208 = .ok (.newarray .int, 2) := by decide +kernel
theorem dX11_init_210 : decode cX11_init 210 = .ok (.putfield 99, 3) := by decide +kernel
theorem dX11_init_213 : decode cX11_init 213 = .ok (.aload_n 0, 1) := by decide +kernel
theorem dX11_init_214 : decode cX11_init 214 = .ok (.aconst_null, 1) := by decide +kernel
theorem dX11_init_215 : decode cX11_init 215 = .ok (.putfield 102, 3) := by decide +kernel
theorem dX11_init_218 : decode cX11_init 218 = .ok (.aload_n 0, 1) := by decide +kernel
theorem dX11_init_219 : decode cX11_init 219 = .ok (.getfield 86, 3) := by decide +kernel
theorem dX11_init_222 : decode cX11_init 222 = .ok (.iconst (-1), 1) := by decide +kernel
theorem dX11_init_223 : decode cX11_init 223 = .ok (.invokestatic 106, 3) := by decide +kernel
theorem dX11_init_226 : decode cX11_init 226 = .ok (.aload_n 0, 1) := by decide +kernel
theorem dX11_init_227 : decode cX11_init 227 = .ok (.getfield 96, 3) := by decide +kernel
theorem dX11_init_230 : decode cX11_init 230 = .ok (.iconst (-1), 1) := by decide +kernel
theorem dX11_init_231 : decode cX11_init 231 = .ok (.invokestatic 106, 3) := by decide +kernel
theorem dX11_init_234 : decode cX11_init 234 = .ok (.return_, 1) := by decide +kernel
theorem dX11_piece_0 : decode cX11_piece 0 = .ok (.iload_n 1, 1) := by decide +kernel
theorem dX11_piece_1 : decode cX11_piece 1 = .ok (.iconst 1, 1) := by decide +kernel
theorem dX11_piece_2 : decode cX11_piece 2 = .ok (.iconst 5, 1) := by decide +kernel
theorem dX11_piece_3 : decode cX11_piece 3 = .ok (.invokestatic 112, 3) := by decide +kernel
theorem dX11_piece_6 : decode cX11_piece 6 = .ok (.ifCond .eq 13, 3) := by decide +kernel
theorem dX11_piece_9 : decode cX11_piece 9 = .ok (.iload_n 2, 1) := by decide +kernel
theorem dX11_piece_10 : decode cX11_piece 10 = .ok (.iconst 0, 1) := by decide +kernel
theorem dX11_piece_11 : decode cX11_piece 11 = .ok (.bipush 99, 2) := by decide +kernel
theorem dX11_piece_13 : decode cX11_piece 13 = .ok (.invokestatic 112, 3) := by decide +kernel
theorem dX11_piece_16 : decode cX11_piece 16 = .ok (.ifCond .ne 5, 3) := by decide +kernel
theorem dX11_piece_19 : decode cX11_piece 19 = .ok (.iconst (-1), 1) := by decide +kernel
theorem dX11_piece_20 : decode cX11_piece 20 = .ok (.ireturn, 1) := by decide +kernel
theorem dX11_piece_21 : decode cX11_piece 21 = .ok (.iload_n 3, 1) := by decide +kernel
theorem dX11_piece_22 : decode cX11_piece 22 = .ok (.iconst 0, 1) := by decide +kernel
theorem dX11_piece_23 : decode cX11_piece 23 = .ok (.bipush 9, 2) := by decide +kernel
theorem dX11_piece_25 : decode cX11_piece 25 = .ok (.invokestatic 112, 3) := by decide +kernel
theorem dX11_piece_28 : decode cX11_piece 28 = .ok (.ifCond .eq 13, 3) := by decide +kernel
theorem dX11_piece_31 : decode cX11_piece 31 = .ok (.iload 4, 2) := by decide +kernel
theorem dX11_piece_33 : decode cX11_piece 33 = .ok (.iconst 0, 1) := by decide +kernel
theorem dX11_piece_34 : decode cX11_piece 34 = .ok (.iconst 5, 1) := by decide +kernel
theorem dX11_piece_35 : decode cX11_piece 35 = .ok (.invokestatic 112, 3) := by decide +kernel
theorem dX11_piece_38 : decode cX11_piece 38 = .ok (.ifCond .ne 5, 3) := by decide +kernel
theorem dX11_piece_41 : decode cX11_piece 41 = .ok (.iconst (-1), 1) := by decide +kernel
theorem dX11_piece_42 : decode cX11_piece 42 = .ok (.ireturn, 1) := by decide +kernel
theorem dX11_piece_43 : decode cX11_piece 43 = .ok (.aload_n 0, 1) := by decide +kernel
theorem dX11_piece_44 : decode cX11_piece 44 = .ok (.getfield 36, 3) := by decide +kernel
theorem dX11_piece_47 : decode cX11_piece 47 = .ok (.getfield 116, 3) := by decide +kernel
theorem dX11_piece_50 : decode cX11_piece 50 = .ok (.bipush 6, 2) := by decide +kernel
theorem dX11_piece_52 : decode cX11_piece 52 = .ok (.if_icmp .lt 6, 3) := by decide +kernel
theorem dX11_piece_55 : decode cX11_piece 55 = .ok (.bipush (-2), 2) := by decide +kernel
theorem dX11_piece_57 : decode cX11_piece 57 = .ok (.ireturn, 1) := by decide +kernel
theorem dX11_piece_58 : decode cX11_piece 58 = .ok (.aload_n 0, 1) := by decide +kernel
theorem dX11_piece_59 : decode cX11_piece 59 = .ok (.getfield 36, 3) := by decide +kernel
theorem dX11_piece_62 : decode cX11_piece 62 = .ok (.iload_n 1, 1) := by decide +kernel
theorem dX11_piece_63 : decode cX11_piece 63 = .ok (.iload_n 2, 1) := by decide +kernel
theorem dX11_piece_64 : decode cX11_piece 64 = .ok (.iload_n 3, 1) := by decide +kernel
theorem dX11_piece_65 : decode cX11_piece 65 = .ok (.iload 4, 2) := by decide +kernel
theorem dX11_piece_67 : decode cX11_piece 67 = .ok (.invokevirtual 119, 3) := by decide +kernel
theorem dX11_piece_70 : decode cX11_piece 70 = .ok (.ireturn, 1) := by decide +kernel
theorem dX11_pieceOf_0 : decode cX11_pieceOf 0 = .ok (.aload_n 0, 1) := by decide +kernel
theorem dX11_pieceOf_1 : decode cX11_pieceOf 1 = .ok (.getfield 36, 3) := by decide +kernel
theorem dX11_pieceOf_4 : decode cX11_pieceOf 4 = .ok (.iload_n 1, 1) := by decide +kernel
theorem dX11_pieceOf_5 : decode cX11_pieceOf 5 = .ok (.invokevirtual 123, 3) := by decide +kernel
theorem dX11_pieceOf_8 : decode cX11_pieceOf 8 = .ok (.ifCond .ne 5, 3) := by decide +kernel
theorem dX11_pieceOf_11 : decode cX11_pieceOf 11 = .ok (.iconst (-1), 1) := by decide +kernel
theorem dX11_pieceOf_12 : decode cX11_pieceOf 12 = .ok (.ireturn, 1) := by decide +kernel
theorem dX11_pieceOf_13 : decode cX11_pieceOf 13 = .ok (.aload_n 0, 1) := by decide +kernel
theorem dX11_pieceOf_14 : decode cX11_pieceOf 14 = .ok (.getfield 36, 3) := by decide +kernel
theorem dX11_pieceOf_17 : decode cX11_pieceOf 17 = .ok (.getfield 127, 3) := by decide +kernel
theorem dX11_pieceOf_20 : decode cX11_pieceOf 20 = .ok (.astore_n 3, 1) := by decide +kernel
theorem dX11_pieceOf_21 : decode cX11_pieceOf 21 = .ok (.iload_n 2, 1) := by decide +kernel
theorem dX11_pieceOf_22 : decode cX11_pieceOf 22 = .ok (.tableswitch 163 0 9 #[54, 64, 71, 81, 91, 105, 115, 125, 135, 153], 54) := by decide +kernel
theorem dX11_pieceOf_76 : decode cX11_pieceOf 76 = .ok (.aload_n 0, 1) := by decide +kernel
theorem dX11_pieceOf_77 : decode cX11_pieceOf 77 = .ok (.getfield 36, 3) := by decide +kernel
theorem dX11_pieceOf_80 : decode cX11_pieceOf 80 = .ok (.getfield 130, 3) := by decide +kernel
theorem dX11_pieceOf_83 : decode cX11_pieceOf 83 = .ok (.iload_n 1, 1) := by decide +kernel
theorem dX11_pieceOf_84 : decode cX11_pieceOf 84 = .ok (.iaload, 1) := by decide +kernel
theorem dX11_pieceOf_85 : decode cX11_pieceOf 85 = .ok (.ireturn, 1) := by decide +kernel
theorem dX11_pieceOf_86 : decode cX11_pieceOf 86 = .ok (.aload_n 3, 1) := by decide +kernel
theorem dX11_pieceOf_87 : decode cX11_pieceOf 87 = .ok (.getfield 133, 3) := by decide +kernel
theorem dX11_pieceOf_90 : decode cX11_pieceOf 90 = .ok (.iload_n 1, 1) := by decide +kernel
theorem dX11_pieceOf_91 : decode cX11_pieceOf 91 = .ok (.iaload, 1) := by decide +kernel
theorem dX11_pieceOf_92 : decode cX11_pieceOf 92 = .ok (.ireturn, 1) := by decide +kernel
theorem dX11_pieceOf_93 : decode cX11_pieceOf 93 = .ok (.aload_n 0, 1) := by decide +kernel
theorem dX11_pieceOf_94 : decode cX11_pieceOf 94 = .ok (.getfield 36, 3) := by decide +kernel
theorem dX11_pieceOf_97 : decode cX11_pieceOf 97 = .ok (.getfield 136, 3) := by decide +kernel
theorem dX11_pieceOf_100 : decode cX11_pieceOf 100 = .ok (.iload_n 1, 1) := by decide +kernel
theorem dX11_pieceOf_101 : decode cX11_pieceOf 101 = .ok (.iaload, 1) := by decide +kernel
theorem dX11_pieceOf_102 : decode cX11_pieceOf 102 = .ok (.ireturn, 1) := by decide +kernel
theorem dX11_pieceOf_103 : decode cX11_pieceOf 103 = .ok (.aload_n 0, 1) := by decide +kernel
theorem dX11_pieceOf_104 : decode cX11_pieceOf 104 = .ok (.getfield 36, 3) := by decide +kernel
theorem dX11_pieceOf_107 : decode cX11_pieceOf 107 = .ok (.getfield 139, 3) := by decide +kernel
theorem dX11_pieceOf_110 : decode cX11_pieceOf 110 = .ok (.iload_n 1, 1) := by decide +kernel
theorem dX11_pieceOf_111 : decode cX11_pieceOf 111 = .ok (.iaload, 1) := by decide +kernel
theorem dX11_pieceOf_112 : decode cX11_pieceOf 112 = .ok (.ireturn, 1) := by decide +kernel
theorem dX11_pieceOf_113 : decode cX11_pieceOf 113 = .ok (.aload_n 3, 1) := by decide +kernel
theorem dX11_pieceOf_114 : decode cX11_pieceOf 114 = .ok (.iload_n 1, 1) := by decide +kernel
theorem dX11_pieceOf_115 : decode cX11_pieceOf 115 = .ok (.invokevirtual 142, 3) := by decide +kernel
theorem dX11_pieceOf_118 : decode cX11_pieceOf 118 = .ok (.ifCond .eq 7, 3) := by decide +kernel
theorem dX11_pieceOf_121 : decode cX11_pieceOf 121 = .ok (.iconst 1, 1) := by decide +kernel
theorem dX11_pieceOf_122 : decode cX11_pieceOf 122 = .ok (.goto 4, 3) := by decide +kernel
theorem dX11_pieceOf_125 : decode cX11_pieceOf 125 = .ok (.iconst 0, 1) := by decide +kernel
theorem dX11_pieceOf_126 : decode cX11_pieceOf 126 = .ok (.ireturn, 1) := by decide +kernel
theorem dX11_pieceOf_127 : decode cX11_pieceOf 127 = .ok (.aload_n 0, 1) := by decide +kernel
theorem dX11_pieceOf_128 : decode cX11_pieceOf 128 = .ok (.getfield 36, 3) := by decide +kernel
theorem dX11_pieceOf_131 : decode cX11_pieceOf 131 = .ok (.aload_n 3, 1) := by decide +kernel
theorem dX11_pieceOf_132 : decode cX11_pieceOf 132 = .ok (.iload_n 1, 1) := by decide +kernel
theorem dX11_pieceOf_133 : decode cX11_pieceOf 133 = .ok (.invokevirtual 145, 3) := by decide +kernel
theorem dX11_pieceOf_136 : decode cX11_pieceOf 136 = .ok (.ireturn, 1) := by decide +kernel
theorem dX11_pieceOf_137 : decode cX11_pieceOf 137 = .ok (.aload_n 0, 1) := by decide +kernel
theorem dX11_pieceOf_138 : decode cX11_pieceOf 138 = .ok (.getfield 36, 3) := by decide +kernel
theorem dX11_pieceOf_141 : decode cX11_pieceOf 141 = .ok (.getfield 149, 3) := by decide +kernel
theorem dX11_pieceOf_144 : decode cX11_pieceOf 144 = .ok (.iload_n 1, 1) := by decide +kernel
theorem dX11_pieceOf_145 : decode cX11_pieceOf 145 = .ok (.iaload, 1) := by decide +kernel
theorem dX11_pieceOf_146 : decode cX11_pieceOf 146 = .ok (.ireturn, 1) := by decide +kernel
theorem dX11_pieceOf_147 : decode cX11_pieceOf 147 = .ok (.aload_n 0, 1) := by decide +kernel
theorem dX11_pieceOf_148 : decode cX11_pieceOf 148 = .ok (.getfield 36, 3) := by decide +kernel
theorem dX11_pieceOf_151 : decode cX11_pieceOf 151 = .ok (.aload_n 3, 1) := by decide +kernel
theorem dX11_pieceOf_152 : decode cX11_pieceOf 152 = .ok (.iload_n 1, 1) := by decide +kernel
theorem dX11_pieceOf_153 : decode cX11_pieceOf 153 = .ok (.invokevirtual 152, 3) := by decide +kernel
theorem dX11_pieceOf_156 : decode cX11_pieceOf 156 = .ok (.ireturn, 1) := by decide +kernel
theorem dX11_pieceOf_157 : decode cX11_pieceOf 157 = .ok (.aload_n 0, 1) := by decide +kernel
theorem dX11_pieceOf_158 : decode cX11_pieceOf 158 = .ok (.getfield 36, 3) := by decide +kernel
theorem dX11_pieceOf_161 : decode cX11_pieceOf 161 = .ok (.aload_n 3, 1) := by decide +kernel
theorem dX11_pieceOf_162 : decode cX11_pieceOf 162 = .ok (.iload_n 1, 1) := by decide +kernel
theorem dX11_pieceOf_163 : decode cX11_pieceOf 163 = .ok (.invokevirtual 155, 3) := by decide +kernel
theorem dX11_pieceOf_166 : decode cX11_pieceOf 166 = .ok (.ifCond .eq 7, 3) := by decide +kernel
theorem dX11_pieceOf_169 : decode cX11_pieceOf 169 = .ok (.iconst 1, 1) := by decide +kernel
theorem dX11_pieceOf_170 : decode cX11_pieceOf 170 = .ok (.goto 4, 3) := by decide +kernel
theorem dX11_pieceOf_173 : decode cX11_pieceOf 173 = .ok (.iconst 0, 1) := by decide +kernel
theorem dX11_pieceOf_174 : decode cX11_pieceOf 174 = .ok (.ireturn, 1) := by decide +kernel
theorem dX11_pieceOf_175 : decode cX11_pieceOf 175 = .ok (.aload_n 0, 1) := by decide +kernel
theorem dX11_pieceOf_176 : decode cX11_pieceOf 176 = .ok (.getfield 36, 3) := by decide +kernel
theorem dX11_pieceOf_179 : decode cX11_pieceOf 179 = .ok (.aload_n 3, 1) := by decide +kernel
theorem dX11_pieceOf_180 : decode cX11_pieceOf 180 = .ok (.iload_n 1, 1) := by decide +kernel
theorem dX11_pieceOf_181 : decode cX11_pieceOf 181 = .ok (.invokevirtual 159, 3) := by decide +kernel
theorem dX11_pieceOf_184 : decode cX11_pieceOf 184 = .ok (.ireturn, 1) := by decide +kernel
theorem dX11_pieceOf_185 : decode cX11_pieceOf 185 = .ok (.iconst (-1), 1) := by decide +kernel
theorem dX11_pieceOf_186 : decode cX11_pieceOf 186 = .ok (.ireturn, 1) := by decide +kernel
theorem dX11_change_0 : decode cX11_change 0 = .ok (.aload_n 0, 1) := by decide +kernel
theorem dX11_change_1 : decode cX11_change 1 = .ok (.getfield 36, 3) := by decide +kernel
theorem dX11_change_4 : decode cX11_change 4 = .ok (.iload_n 1, 1) := by decide +kernel
theorem dX11_change_5 : decode cX11_change 5 = .ok (.invokevirtual 123, 3) := by decide +kernel
theorem dX11_change_8 : decode cX11_change 8 = .ok (.ifCond .ne 5, 3) := by decide +kernel
theorem dX11_change_11 : decode cX11_change 11 = .ok (.iconst (-1), 1) := by decide +kernel
theorem dX11_change_12 : decode cX11_change 12 = .ok (.ireturn, 1) := by decide +kernel
theorem dX11_change_13 : decode cX11_change 13 = .ok (.iload_n 2, 1) := by decide +kernel
theorem dX11_change_14 : decode cX11_change 14 = .ok (.tableswitch 136 1 4 #[30, 60, 84, 110], 30) := by decide +kernel
theorem dX11_change_44 : decode cX11_change 44 = .ok (.iload_n 3, 1) := by decide +kernel
theorem dX11_change_45 : decode cX11_change 45 = .ok (.iconst 0, 1) := by decide +kernel
theorem dX11_change_46 : decode cX11_change 46 = .ok (.bipush 99, 2) := by decide +kernel
theorem dX11_change_48 : decode cX11_change 48 = .ok (.invokestatic 112, 3) := by decide +kernel
theorem dX11_change_51 : decode cX11_change 51 = .ok (.ifCond .eq 21, 3) := by decide +kernel
theorem dX11_change_54 : decode cX11_change 54 = .ok (.aload_n 0, 1) := by decide +kernel
theorem dX11_change_55 : decode cX11_change 55 = .ok (.getfield 36, 3) := by decide +kernel
theorem dX11_change_58 : decode cX11_change 58 = .ok (.getfield 127, 3) := by decide +kernel
theorem dX11_change_61 : decode cX11_change 61 = .ok (.getfield 133, 3) := by decide +kernel
theorem dX11_change_64 : decode cX11_change 64 = .ok (.iload_n 1, 1) := by decide +kernel
theorem dX11_change_65 : decode cX11_change 65 = .ok (.iload_n 3, 1) := by decide +kernel
theorem dX11_change_66 : decode cX11_change 66 = .ok (.invokestatic 162, 3) := by decide +kernel
theorem dX11_change_69 : decode cX11_change 69 = .ok (.goto 4, 3) := by decide +kernel
theorem dX11_change_72 : decode cX11_change 72 = .ok (.iconst (-1), 1) := by decide +kernel
theorem dX11_change_73 : decode cX11_change 73 = .ok (.ireturn, 1) := by decide +kernel
theorem dX11_change_74 : decode cX11_change 74 = .ok (.iload_n 3, 1) := by decide +kernel
theorem dX11_change_75 : decode cX11_change 75 = .ok (.iconst 0, 1) := by decide +kernel
theorem dX11_change_76 : decode cX11_change 76 = .ok (.bipush 9, 2) := by decide +kernel
theorem dX11_change_78 : decode cX11_change 78 = .ok (.invokestatic 112, 3) := by decide +kernel
theorem dX11_change_81 : decode cX11_change 81 = .ok (.ifCond .eq 15, 3) := by decide +kernel
theorem dX11_change_84 : decode cX11_change 84 = .ok (.aload_n 0, 1) := by decide +kernel
theorem dX11_change_85 : decode cX11_change 85 = .ok (.getfield 36, 3) := by decide +kernel
theorem dX11_change_88 : decode cX11_change 88 = .ok (.iload_n 1, 1) := by decide +kernel
theorem dX11_change_89 : decode cX11_change 89 = .ok (.iload_n 3, 1) := by decide +kernel
theorem dX11_change_90 : decode cX11_change 90 = .ok (.invokevirtual 166, 3) := by decide +kernel
theorem dX11_change_93 : decode cX11_change 93 = .ok (.goto 4, 3) := by decide +kernel
theorem dX11_change_96 : decode cX11_change 96 = .ok (.iconst (-1), 1) := by decide +kernel
theorem dX11_change_97 : decode cX11_change 97 = .ok (.ireturn, 1) := by decide +kernel
theorem dX11_change_98 : decode cX11_change 98 = .ok (.iload_n 3, 1) := by decide +kernel
theorem dX11_change_99 : decode cX11_change 99 = .ok (.iconst 0, 1) := by decide +kernel
theorem dX11_change_100 : decode cX11_change 100 = .ok (.iconst 5, 1) := by decide +kernel
theorem dX11_change_101 : decode cX11_change 101 = .ok (.invokestatic 112, 3) := by decide +kernel
theorem dX11_change_104 : decode cX11_change 104 = .ok (.ifCond .eq 18, 3) := by decide +kernel
theorem dX11_change_107 : decode cX11_change 107 = .ok (.aload_n 0, 1) := by decide +kernel
theorem dX11_change_108 : decode cX11_change 108 = .ok (.getfield 36, 3) := by decide +kernel
theorem dX11_change_111 : decode cX11_change 111 = .ok (.getfield 139, 3) := by decide +kernel
theorem dX11_change_114 : decode cX11_change 114 = .ok (.iload_n 1, 1) := by decide +kernel
theorem dX11_change_115 : decode cX11_change 115 = .ok (.iload_n 3, 1) := by decide +kernel
theorem dX11_change_116 : decode cX11_change 116 = .ok (.invokestatic 162, 3) := by decide +kernel
theorem dX11_change_119 : decode cX11_change 119 = .ok (.goto 4, 3) := by decide +kernel
theorem dX11_change_122 : decode cX11_change 122 = .ok (.iconst (-1), 1) := by decide +kernel
theorem dX11_change_123 : decode cX11_change 123 = .ok (.ireturn, 1) := by decide +kernel
theorem dX11_change_124 : decode cX11_change 124 = .ok (.iload_n 3, 1) := by decide +kernel
theorem dX11_change_125 : decode cX11_change 125 = .ok (.iconst 0, 1) := by decide +kernel
theorem dX11_change_126 : decode cX11_change 126 = .ok (.iconst 1, 1) := by decide +kernel
theorem dX11_change_127 : decode cX11_change 127 = .ok (.invokestatic 112, 3) := by decide +kernel
theorem dX11_change_130 : decode cX11_change 130 = .ok (.ifCond .eq 18, 3) := by decide +kernel
theorem dX11_change_133 : decode cX11_change 133 = .ok (.aload_n 0, 1) := by decide +kernel
theorem dX11_change_134 : decode cX11_change 134 = .ok (.getfield 36, 3) := by decide +kernel
theorem dX11_change_137 : decode cX11_change 137 = .ok (.getfield 127, 3) := by decide +kernel
theorem dX11_change_140 : decode cX11_change 140 = .ok (.iload_n 1, 1) := by decide +kernel
theorem dX11_change_141 : decode cX11_change 141 = .ok (.iload_n 3, 1) := by decide +kernel
theorem dX11_change_142 : decode cX11_change 142 = .ok (.invokevirtual 170, 3) := by decide +kernel
theorem dX11_change_145 : decode cX11_change 145 = .ok (.goto 4, 3) := by decide +kernel
theorem dX11_change_148 : decode cX11_change 148 = .ok (.iconst (-1), 1) := by decide +kernel
theorem dX11_change_149 : decode cX11_change 149 = .ok (.ireturn, 1) := by decide +kernel
theorem dX11_change_150 : decode cX11_change 150 = .ok (.iconst (-1), 1) := by decide +kernel
theorem dX11_change_151 : decode cX11_change 151 = .ok (.ireturn, 1) := by decide +kernel
theorem dX11_remake_0 : decode cX11_remake 0 = .ok (.aload_n 0, 1) := by decide +kernel
theorem dX11_remake_1 : decode cX11_remake 1 = .ok (.getfield 36, 3) := by decide +kernel
theorem dX11_remake_4 : decode cX11_remake 4 = .ok (.iload_n 1, 1) := by decide +kernel
theorem dX11_remake_5 : decode cX11_remake 5 = .ok (.invokevirtual 123, 3) := by decide +kernel
theorem dX11_remake_8 : decode cX11_remake 8 = .ok (.ifCond .eq 12, 3) := by decide +kernel
theorem dX11_remake_11 : decode cX11_remake 11 = .ok (.iload_n 2, 1) := by decide +kernel
theorem dX11_remake_12 : decode cX11_remake 12 = .ok (.iconst 1, 1) := by decide +kernel
theorem dX11_remake_13 : decode cX11_remake 13 = .ok (.iconst 5, 1) := by decide +kernel
theorem dX11_remake_14 : decode cX11_remake 14 = .ok (.invokestatic 112, 3) := by decide +kernel
theorem dX11_remake_17 : decode cX11_remake 17 = .ok (.ifCond .ne 5, 3) := by decide +kernel
theorem dX11_remake_20 : decode cX11_remake 20 = .ok (.iconst (-1), 1) := by decide +kernel
theorem dX11_remake_21 : decode cX11_remake 21 = .ok (.ireturn, 1) := by decide +kernel
theorem dX11_remake_22 : decode cX11_remake 22 = .ok (.aload_n 0, 1) := by decide +kernel
theorem dX11_remake_23 : decode cX11_remake 23 = .ok (.getfield 36, 3) := by decide +kernel
theorem dX11_remake_26 : decode cX11_remake 26 = .ok (.iload_n 1, 1) := by decide +kernel
theorem dX11_remake_27 : decode cX11_remake 27 = .ok (.iload_n 2, 1) := by decide +kernel
theorem dX11_remake_28 : decode cX11_remake 28 = .ok (.invokevirtual 173, 3) := by decide +kernel
theorem dX11_remake_31 : decode cX11_remake 31 = .ok (.ireturn, 1) := by decide +kernel
theorem dX11_saying_0 : decode cX11_saying 0 = .ok (.iload_n 1, 1) := by decide +kernel
theorem dX11_saying_1 : decode cX11_saying 1 = .ok (.iconst 0, 1) := by decide +kernel
theorem dX11_saying_2 : decode cX11_saying 2 = .ok (.bipush 15, 2) := by decide +kernel
theorem dX11_saying_4 : decode cX11_saying 4 = .ok (.invokestatic 112, 3) := by decide +kernel
theorem dX11_saying_7 : decode cX11_saying 7 = .ok (.ifCond .eq 13, 3) := by decide +kernel
theorem dX11_saying_10 : decode cX11_saying 10 = .ok (.iload_n 2, 1) := by decide +kernel
theorem dX11_saying_11 : decode cX11_saying 11 = .ok (.iconst 0, 1) := by decide +kernel
theorem dX11_saying_12 : decode cX11_saying 12 = .ok (.bipush 15, 2) := by decide +kernel
theorem dX11_saying_14 : decode cX11_saying 14 = .ok (.invokestatic 112, 3) := by decide +kernel
theorem dX11_saying_17 : decode cX11_saying 17 = .ok (.ifCond .ne 5, 3) := by decide +kernel
theorem dX11_saying_20 : decode cX11_saying 20 = .ok (.iconst (-1), 1) := by decide +kernel
theorem dX11_saying_21 : decode cX11_saying 21 = .ok (.ireturn, 1) := by decide +kernel
theorem dX11_saying_22 : decode cX11_saying 22 = .ok (.aload_n 0, 1) := by decide +kernel
theorem dX11_saying_23 : decode cX11_saying 23 = .ok (.getfield 36, 3) := by decide +kernel
theorem dX11_saying_26 : decode cX11_saying 26 = .ok (.getfield 176, 3) := by decide +kernel
theorem dX11_saying_29 : decode cX11_saying 29 = .ok (.iload_n 1, 1) := by decide +kernel
theorem dX11_saying_30 : decode cX11_saying 30 = .ok (.iload_n 2, 1) := by decide +kernel
theorem dX11_saying_31 : decode cX11_saying 31 = .ok (.invokestatic 162, 3) := by decide +kernel
theorem dX11_saying_34 : decode cX11_saying 34 = .ok (.ireturn, 1) := by decide +kernel
theorem dX11_room_0 : decode cX11_room 0 = .ok (.iload_n 1, 1) := by decide +kernel
theorem dX11_room_1 : decode cX11_room 1 = .ok (.iconst 0, 1) := by decide +kernel
theorem dX11_room_2 : decode cX11_room 2 = .ok (.iconst 5, 1) := by decide +kernel
theorem dX11_room_3 : decode cX11_room 3 = .ok (.invokestatic 112, 3) := by decide +kernel
theorem dX11_room_6 : decode cX11_room 6 = .ok (.ifCond .eq 22, 3) := by decide +kernel
theorem dX11_room_9 : decode cX11_room 9 = .ok (.iload_n 2, 1) := by decide +kernel
theorem dX11_room_10 : decode cX11_room 10 = .ok (.iconst 0, 1) := by decide +kernel
theorem dX11_room_11 : decode cX11_room 11 = .ok (.iconst 1, 1) := by decide +kernel
theorem dX11_room_12 : decode cX11_room 12 = .ok (.invokestatic 112, 3) := by decide +kernel
theorem dX11_room_15 : decode cX11_room 15 = .ok (.ifCond .eq 13, 3) := by decide +kernel
theorem dX11_room_18 : decode cX11_room 18 = .ok (.iload_n 3, 1) := by decide +kernel
theorem dX11_room_19 : decode cX11_room 19 = .ok (.iconst 0, 1) := by decide +kernel
theorem dX11_room_20 : decode cX11_room 20 = .ok (.bipush 9, 2) := by decide +kernel
theorem dX11_room_22 : decode cX11_room 22 = .ok (.invokestatic 112, 3) := by decide +kernel
theorem dX11_room_25 : decode cX11_room 25 = .ok (.ifCond .ne 5, 3) := by decide +kernel
theorem dX11_room_28 : decode cX11_room 28 = .ok (.iconst (-1), 1) := by decide +kernel
theorem dX11_room_29 : decode cX11_room 29 = .ok (.ireturn, 1) := by decide +kernel
theorem dX11_room_30 : decode cX11_room 30 = .ok (.iload_n 2, 1) := by decide +kernel
theorem dX11_room_31 : decode cX11_room 31 = .ok (.ifCond .ne 13, 3) := by decide +kernel
theorem dX11_room_34 : decode cX11_room 34 = .ok (.aload_n 0, 1) := by decide +kernel
theorem dX11_room_35 : decode cX11_room 35 = .ok (.getfield 36, 3) := by decide +kernel
theorem dX11_room_38 : decode cX11_room 38 = .ok (.getfield 179, 3) := by decide +kernel
theorem dX11_room_41 : decode cX11_room 41 = .ok (.goto 10, 3) := by decide +kernel
theorem dX11_room_44 : decode cX11_room 44 = .ok (.aload_n 0, 1) := by decide +kernel
theorem dX11_room_45 : decode cX11_room 45 = .ok (.getfield 36, 3) := by decide +kernel
theorem dX11_room_48 : decode cX11_room 48 = .ok (.getfield 182, 3) := by decide +kernel
theorem dX11_room_51 : decode cX11_room 51 = .ok (.iload_n 1, 1) := by decide +kernel
theorem dX11_room_52 : decode cX11_room 52 = .ok (.iload_n 3, 1) := by decide +kernel
theorem dX11_room_53 : decode cX11_room 53 = .ok (.invokestatic 162, 3) := by decide +kernel
theorem dX11_room_56 : decode cX11_room 56 = .ok (.ireturn, 1) := by decide +kernel
theorem dX11_roomOf_0 : decode cX11_roomOf 0 = .ok (.iload_n 1, 1) := by decide +kernel
theorem dX11_roomOf_1 : decode cX11_roomOf 1 = .ok (.iconst 0, 1) := by decide +kernel
theorem dX11_roomOf_2 : decode cX11_roomOf 2 = .ok (.iconst 5, 1) := by decide +kernel
theorem dX11_roomOf_3 : decode cX11_roomOf 3 = .ok (.invokestatic 112, 3) := by decide +kernel
theorem dX11_roomOf_6 : decode cX11_roomOf 6 = .ok (.ifCond .eq 12, 3) := by decide +kernel
theorem dX11_roomOf_9 : decode cX11_roomOf 9 = .ok (.iload_n 2, 1) := by decide +kernel
theorem dX11_roomOf_10 : decode cX11_roomOf 10 = .ok (.iconst 0, 1) := by decide +kernel
theorem dX11_roomOf_11 : decode cX11_roomOf 11 = .ok (.iconst 1, 1) := by decide +kernel
theorem dX11_roomOf_12 : decode cX11_roomOf 12 = .ok (.invokestatic 112, 3) := by decide +kernel
theorem dX11_roomOf_15 : decode cX11_roomOf 15 = .ok (.ifCond .ne 5, 3) := by decide +kernel
theorem dX11_roomOf_18 : decode cX11_roomOf 18 = .ok (.iconst (-1), 1) := by decide +kernel
theorem dX11_roomOf_19 : decode cX11_roomOf 19 = .ok (.ireturn, 1) := by decide +kernel
theorem dX11_roomOf_20 : decode cX11_roomOf 20 = .ok (.iload_n 2, 1) := by decide +kernel
theorem dX11_roomOf_21 : decode cX11_roomOf 21 = .ok (.ifCond .ne 15, 3) := by decide +kernel
theorem dX11_roomOf_24 : decode cX11_roomOf 24 = .ok (.aload_n 0, 1) := by decide +kernel
theorem dX11_roomOf_25 : decode cX11_roomOf 25 = .ok (.getfield 36, 3) := by decide +kernel
theorem dX11_roomOf_28 : decode cX11_roomOf 28 = .ok (.getfield 179, 3) := by decide +kernel
theorem dX11_roomOf_31 : decode cX11_roomOf 31 = .ok (.iload_n 1, 1) := by decide +kernel
theorem dX11_roomOf_32 : decode cX11_roomOf 32 = .ok (.iaload, 1) := by decide +kernel
theorem dX11_roomOf_33 : decode cX11_roomOf 33 = .ok (.goto 12, 3) := by decide +kernel
theorem dX11_roomOf_36 : decode cX11_roomOf 36 = .ok (.aload_n 0, 1) := by decide +kernel
theorem dX11_roomOf_37 : decode cX11_roomOf 37 = .ok (.getfield 36, 3) := by decide +kernel
theorem dX11_roomOf_40 : decode cX11_roomOf 40 = .ok (.getfield 182, 3) := by decide +kernel
theorem dX11_roomOf_43 : decode cX11_roomOf 43 = .ok (.iload_n 1, 1) := by decide +kernel
theorem dX11_roomOf_44 : decode cX11_roomOf 44 = .ok (.iaload, 1) := by decide +kernel
theorem dX11_roomOf_45 : decode cX11_roomOf 45 = .ok (.ireturn, 1) := by decide +kernel
theorem dX11_ends_0 : decode cX11_ends 0 = .ok (.iload_n 1, 1) := by decide +kernel
theorem dX11_ends_1 : decode cX11_ends 1 = .ok (.iconst 1, 1) := by decide +kernel
theorem dX11_ends_2 : decode cX11_ends 2 = .ok (.bipush 16, 2) := by decide +kernel
theorem dX11_ends_4 : decode cX11_ends 4 = .ok (.invokestatic 112, 3) := by decide +kernel
theorem dX11_ends_7 : decode cX11_ends 7 = .ok (.ifCond .ne 5, 3) := by decide +kernel
theorem dX11_ends_10 : decode cX11_ends 10 = .ok (.iconst (-1), 1) := by decide +kernel
theorem dX11_ends_11 : decode cX11_ends 11 = .ok (.ireturn, 1) := by decide +kernel
theorem dX11_ends_12 : decode cX11_ends 12 = .ok (.iload_n 1, 1) := by decide +kernel
theorem dX11_ends_13 : decode cX11_ends 13 = .ok (.aload_n 0, 1) := by decide +kernel
theorem dX11_ends_14 : decode cX11_ends 14 = .ok (.getfield 36, 3) := by decide +kernel
theorem dX11_ends_17 : decode cX11_ends 17 = .ok (.getfield 127, 3) := by decide +kernel
theorem dX11_ends_20 : decode cX11_ends 20 = .ok (.getfield 185, 3) := by decide +kernel
theorem dX11_ends_23 : decode cX11_ends 23 = .ok (.if_icmp .ge 6, 3) := by decide +kernel
theorem dX11_ends_26 : decode cX11_ends 26 = .ok (.bipush (-4), 2) := by decide +kernel
theorem dX11_ends_28 : decode cX11_ends 28 = .ok (.ireturn, 1) := by decide +kernel
theorem dX11_ends_29 : decode cX11_ends 29 = .ok (.aload_n 0, 1) := by decide +kernel
theorem dX11_ends_30 : decode cX11_ends 30 = .ok (.getfield 36, 3) := by decide +kernel
theorem dX11_ends_33 : decode cX11_ends 33 = .ok (.getfield 188, 3) := by decide +kernel
theorem dX11_ends_36 : decode cX11_ends 36 = .ok (.istore_n 2, 1) := by decide +kernel
theorem dX11_ends_37 : decode cX11_ends 37 = .ok (.aload_n 0, 1) := by decide +kernel
theorem dX11_ends_38 : decode cX11_ends 38 = .ok (.getfield 36, 3) := by decide +kernel
theorem dX11_ends_41 : decode cX11_ends 41 = .ok (.iload_n 1, 1) := by decide +kernel
theorem dX11_ends_42 : decode cX11_ends 42 = .ok (.putfield 188, 3) := by decide +kernel
theorem dX11_ends_45 : decode cX11_ends 45 = .ok (.iload_n 2, 1) := by decide +kernel
theorem dX11_ends_46 : decode cX11_ends 46 = .ok (.ireturn, 1) := by decide +kernel
theorem dX11_anew_0 : decode cX11_anew 0 = .ok (.aload_n 0, 1) := by decide +kernel
theorem dX11_anew_1 : decode cX11_anew 1 = .ok (.getfield 36, 3) := by decide +kernel
theorem dX11_anew_4 : decode cX11_anew 4 = .ok (.getfield 127, 3) := by decide +kernel
theorem dX11_anew_7 : decode cX11_anew 7 = .ok (.getfield 185, 3) := by decide +kernel
theorem dX11_anew_10 : decode cX11_anew 10 = .ok (.istore_n 1, 1) := by decide +kernel
theorem dX11_anew_11 : decode cX11_anew 11 = .ok (.aload_n 0, 1) := by decide +kernel
theorem dX11_anew_12 : decode cX11_anew 12 = .ok (.getfield 36, 3) := by decide +kernel
theorem dX11_anew_15 : decode cX11_anew 15 = .ok (.getfield 127, 3) := by decide +kernel
theorem dX11_anew_18 : decode cX11_anew 18 = .ok (.iconst 0, 1) := by decide +kernel
theorem dX11_anew_19 : decode cX11_anew 19 = .ok (.putfield 185, 3) := by decide +kernel
theorem dX11_anew_22 : decode cX11_anew 22 = .ok (.aload_n 0, 1) := by decide +kernel
theorem dX11_anew_23 : decode cX11_anew 23 = .ok (.getfield 36, 3) := by decide +kernel
theorem dX11_anew_26 : decode cX11_anew 26 = .ok (.getfield 127, 3) := by decide +kernel
theorem dX11_anew_29 : decode cX11_anew 29 = .ok (.iconst 0, 1) := by decide +kernel
theorem dX11_anew_30 : decode cX11_anew 30 = .ok (.putfield 191, 3) := by decide +kernel
theorem dX11_anew_33 : decode cX11_anew 33 = .ok (.aload_n 0, 1) := by decide +kernel
theorem dX11_anew_34 : decode cX11_anew 34 = .ok (.getfield 36, 3) := by decide +kernel
theorem dX11_anew_37 : decode cX11_anew 37 = .ok (.iconst 0, 1) := by decide +kernel
theorem dX11_anew_38 : decode cX11_anew 38 = .ok (.putfield 194, 3) := by decide +kernel
theorem dX11_anew_41 : decode cX11_anew 41 = .ok (.iload_n 1, 1) := by decide +kernel
theorem dX11_anew_42 : decode cX11_anew 42 = .ok (.ireturn, 1) := by decide +kernel
theorem dX11_state_0 : decode cX11_state 0 = .ok (.aload_n 0, 1) := by decide +kernel
theorem dX11_state_1 : decode cX11_state 1 = .ok (.getfield 36, 3) := by decide +kernel
theorem dX11_state_4 : decode cX11_state 4 = .ok (.getfield 127, 3) := by decide +kernel
theorem dX11_state_7 : decode cX11_state 7 = .ok (.astore_n 2, 1) := by decide +kernel
theorem dX11_state_8 : decode cX11_state 8 = .ok (.iload_n 1, 1) := by decide +kernel
theorem dX11_state_9 : decode cX11_state 9 = .ok (.tableswitch 107 0 6 #[43, 48, 56, 64, 81, 86, 98], 43) := by decide +kernel
theorem dX11_state_52 : decode cX11_state 52 = .ok (.aload_n 2, 1) := by decide +kernel
theorem dX11_state_53 : decode cX11_state 53 = .ok (.getfield 185, 3) := by decide +kernel
theorem dX11_state_56 : decode cX11_state 56 = .ok (.ireturn, 1) := by decide +kernel
theorem dX11_state_57 : decode cX11_state 57 = .ok (.aload_n 0, 1) := by decide +kernel
theorem dX11_state_58 : decode cX11_state 58 = .ok (.getfield 36, 3) := by decide +kernel
theorem dX11_state_61 : decode cX11_state 61 = .ok (.getfield 188, 3) := by decide +kernel
theorem dX11_state_64 : decode cX11_state 64 = .ok (.ireturn, 1) := by decide +kernel
theorem dX11_state_65 : decode cX11_state 65 = .ok (.aload_n 0, 1) := by decide +kernel
theorem dX11_state_66 : decode cX11_state 66 = .ok (.getfield 36, 3) := by decide +kernel
theorem dX11_state_69 : decode cX11_state 69 = .ok (.getfield 194, 3) := by decide +kernel
theorem dX11_state_72 : decode cX11_state 72 = .ok (.ireturn, 1) := by decide +kernel
theorem dX11_state_73 : decode cX11_state 73 = .ok (.aload_n 0, 1) := by decide +kernel
theorem dX11_state_74 : decode cX11_state 74 = .ok (.getfield 36, 3) := by decide +kernel
theorem dX11_state_77 : decode cX11_state 77 = .ok (.aload_n 2, 1) := by decide +kernel
theorem dX11_state_78 : decode cX11_state 78 = .ok (.invokevirtual 197, 3) := by decide +kernel
theorem dX11_state_81 : decode cX11_state 81 = .ok (.ifCond .eq 7, 3) := by decide +kernel
theorem dX11_state_84 : decode cX11_state 84 = .ok (.iconst 1, 1) := by decide +kernel
theorem dX11_state_85 : decode cX11_state 85 = .ok (.goto 4, 3) := by decide +kernel
theorem dX11_state_88 : decode cX11_state 88 = .ok (.iconst 0, 1) := by decide +kernel
theorem dX11_state_89 : decode cX11_state 89 = .ok (.ireturn, 1) := by decide +kernel
theorem dX11_state_90 : decode cX11_state 90 = .ok (.aload_n 2, 1) := by decide +kernel
theorem dX11_state_91 : decode cX11_state 91 = .ok (.getfield 191, 3) := by decide +kernel
theorem dX11_state_94 : decode cX11_state 94 = .ok (.ireturn, 1) := by decide +kernel
theorem dX11_state_95 : decode cX11_state 95 = .ok (.aload_n 0, 1) := by decide +kernel
theorem dX11_state_96 : decode cX11_state 96 = .ok (.getfield 36, 3) := by decide +kernel
theorem dX11_state_99 : decode cX11_state 99 = .ok (.aload_n 2, 1) := by decide +kernel
theorem dX11_state_100 : decode cX11_state 100 = .ok (.getfield 185, 3) := by decide +kernel
theorem dX11_state_103 : decode cX11_state 103 = .ok (.invokevirtual 201, 3) := by decide +kernel
theorem dX11_state_106 : decode cX11_state 106 = .ok (.ireturn, 1) := by decide +kernel
theorem dX11_state_107 : decode cX11_state 107 = .ok (.aload_n 0, 1) := by decide +kernel
theorem dX11_state_108 : decode cX11_state 108 = .ok (.getfield 36, 3) := by decide +kernel
theorem dX11_state_111 : decode cX11_state 111 = .ok (.aload_n 2, 1) := by decide +kernel
theorem dX11_state_112 : decode cX11_state 112 = .ok (.invokevirtual 205, 3) := by decide +kernel
theorem dX11_state_115 : decode cX11_state 115 = .ok (.ireturn, 1) := by decide +kernel
theorem dX11_state_116 : decode cX11_state 116 = .ok (.iconst (-1), 1) := by decide +kernel
theorem dX11_state_117 : decode cX11_state 117 = .ok (.ireturn, 1) := by decide +kernel
theorem dX11_feed_0 : decode cX11_feed 0 = .ok (.iload_n 3, 1) := by decide +kernel
theorem dX11_feed_1 : decode cX11_feed 1 = .ok (.iconst 1, 1) := by decide +kernel
theorem dX11_feed_2 : decode cX11_feed 2 = .ok (.bipush 8, 2) := by decide +kernel
theorem dX11_feed_4 : decode cX11_feed 4 = .ok (.invokestatic 112, 3) := by decide +kernel
theorem dX11_feed_7 : decode cX11_feed 7 = .ok (.ifCond .ne 5, 3) := by decide +kernel
theorem dX11_feed_10 : decode cX11_feed 10 = .ok (.iconst (-1), 1) := by decide +kernel
theorem dX11_feed_11 : decode cX11_feed 11 = .ok (.ireturn, 1) := by decide +kernel
theorem dX11_feed_12 : decode cX11_feed 12 = .ok (.aload_n 0, 1) := by decide +kernel
theorem dX11_feed_13 : decode cX11_feed 13 = .ok (.getfield 67, 3) := by decide +kernel
theorem dX11_feed_16 : decode cX11_feed 16 = .ok (.iload_n 3, 1) := by decide +kernel
theorem dX11_feed_17 : decode cX11_feed 17 = .ok (.iadd, 1) := by decide +kernel
theorem dX11_feed_18 : decode cX11_feed 18 = .ok (.sipush 200, 3) := by decide +kernel
theorem dX11_feed_21 : decode cX11_feed 21 = .ok (.if_icmp .le 6, 3) := by decide +kernel
theorem dX11_feed_24 : decode cX11_feed 24 = .ok (.bipush (-2), 2) := by decide +kernel
theorem dX11_feed_26 : decode cX11_feed 26 = .ok (.ireturn, 1) := by decide +kernel
theorem dX11_feed_27 : decode cX11_feed 27 = .ok (.iconst 0, 1) := by decide +kernel
theorem dX11_feed_28 : decode cX11_feed 28 = .ok (.istore 4, 2) := by decide +kernel
theorem dX11_feed_30 : decode cX11_feed 30 = .ok (.iload 4, 2) := by decide +kernel
theorem dX11_feed_32 : decode cX11_feed 32 = .ok (.iload_n 3, 1) := by decide +kernel
theorem dX11_feed_33 : decode cX11_feed 33 = .ok (.if_icmp .ge 37, 3) := by decide +kernel
theorem dX11_feed_36 : decode cX11_feed 36 = .ok (.aload_n 0, 1) := by decide +kernel
theorem dX11_feed_37 : decode cX11_feed 37 = .ok (.getfield 63, 3) := by decide +kernel
theorem dX11_feed_40 : decode cX11_feed 40 = .ok (.aload_n 0, 1) := by decide +kernel
theorem dX11_feed_41 : decode cX11_feed 41 = .ok (.getfield 67, 3) := by decide +kernel
theorem dX11_feed_44 : decode cX11_feed 44 = .ok (.lload_n 1, 1) := by decide +kernel
theorem dX11_feed_45 : decode cX11_feed 45 = .ok (.bipush 8, 2) := by decide +kernel
theorem dX11_feed_47 : decode cX11_feed 47 = .ok (.iload 4, 2) := by decide +kernel
theorem dX11_feed_49 : decode cX11_feed 49 = .ok (.imul, 1) := by decide +kernel
theorem dX11_feed_50 : decode cX11_feed 50 = .ok (.lshr, 1) := by decide +kernel
theorem dX11_feed_51 : decode cX11_feed 51 = .ok (.l2i, 1) := by decide +kernel
theorem dX11_feed_52 : decode cX11_feed 52 = .ok (.i2b, 1) := by decide +kernel
theorem dX11_feed_53 : decode cX11_feed 53 = .ok (.bastore, 1) := by decide +kernel
theorem dX11_feed_54 : decode cX11_feed 54 = .ok (.aload_n 0, 1) := by decide +kernel
theorem dX11_feed_55 : decode cX11_feed 55 = .ok (.dup, 1) := by decide +kernel
theorem dX11_feed_56 : decode cX11_feed 56 = .ok (.getfield 67, 3) := by decide +kernel
theorem dX11_feed_59 : decode cX11_feed 59 = .ok (.iconst 1, 1) := by decide +kernel
theorem dX11_feed_60 : decode cX11_feed 60 = .ok (.iadd, 1) := by decide +kernel
theorem dX11_feed_61 : decode cX11_feed 61 = .ok (.putfield 67, 3) := by decide +kernel
theorem dX11_feed_64 : decode cX11_feed 64 = .ok (.iinc 4 1, 3) := by decide +kernel
theorem dX11_feed_67 : decode cX11_feed 67 = .ok (.goto (-37), 3) := by decide +kernel
theorem dX11_feed_70 : decode cX11_feed 70 = .ok (.aload_n 0, 1) := by decide +kernel
theorem dX11_feed_71 : decode cX11_feed 71 = .ok (.getfield 67, 3) := by decide +kernel
theorem dX11_feed_74 : decode cX11_feed 74 = .ok (.ireturn, 1) := by decide +kernel
theorem dX11_rules_0 : decode cX11_rules 0 = .ok (.aload_n 0, 1) := by decide +kernel
theorem dX11_rules_1 : decode cX11_rules 1 = .ok (.getfield 74, 3) := by decide +kernel
theorem dX11_rules_4 : decode cX11_rules 4 = .ok (.aload_n 0, 1) := by decide +kernel
theorem dX11_rules_5 : decode cX11_rules 5 = .ok (.getfield 63, 3) := by decide +kernel
theorem dX11_rules_8 : decode cX11_rules 8 = .ok (.aload_n 0, 1) := by decide +kernel
theorem dX11_rules_9 : decode cX11_rules 9 = .ok (.getfield 67, 3) := by decide +kernel
theorem dX11_rules_12 : decode cX11_rules 12 = .ok (.invokevirtual 209, 3) := by decide +kernel
theorem dX11_rules_15 : decode cX11_rules 15 = .ok (.istore_n 1, 1) := by decide +kernel
theorem dX11_rules_16 : decode cX11_rules 16 = .ok (.aload_n 0, 1) := by decide +kernel
theorem dX11_rules_17 : decode cX11_rules 17 = .ok (.iconst 0, 1) := by decide +kernel
theorem dX11_rules_18 : decode cX11_rules 18 = .ok (.putfield 67, 3) := by decide +kernel
theorem dX11_rules_21 : decode cX11_rules 21 = .ok (.iload_n 1, 1) := by decide +kernel
theorem dX11_rules_22 : decode cX11_rules 22 = .ok (.ifCond .ge 5, 3) := by decide +kernel
theorem dX11_rules_25 : decode cX11_rules 25 = .ok (.iload_n 1, 1) := by decide +kernel
theorem dX11_rules_26 : decode cX11_rules 26 = .ok (.ireturn, 1) := by decide +kernel
theorem dX11_rules_27 : decode cX11_rules 27 = .ok (.aload_n 0, 1) := by decide +kernel
theorem dX11_rules_28 : decode cX11_rules 28 = .ok (.getfield 74, 3) := by decide +kernel
theorem dX11_rules_31 : decode cX11_rules 31 = .ok (.astore_n 2, 1) := by decide +kernel
theorem dX11_rules_32 : decode cX11_rules 32 = .ok (.aload_n 0, 1) := by decide +kernel
theorem dX11_rules_33 : decode cX11_rules 33 = .ok (.aload_n 0, 1) := by decide +kernel
theorem dX11_rules_34 : decode cX11_rules 34 = .ok (.getfield 36, 3) := by decide +kernel
theorem dX11_rules_37 : decode cX11_rules 37 = .ok (.getfield 213, 3) := by decide +kernel
theorem dX11_rules_40 : decode cX11_rules 40 = .ok (.putfield 74, 3) := by decide +kernel
theorem dX11_rules_43 : decode cX11_rules 43 = .ok (.aload_n 0, 1) := by decide +kernel
theorem dX11_rules_44 : decode cX11_rules 44 = .ok (.getfield 36, 3) := by decide +kernel
theorem dX11_rules_47 : decode cX11_rules 47 = .ok (.aload_n 2, 1) := by decide +kernel
theorem dX11_rules_48 : decode cX11_rules 48 = .ok (.putfield 213, 3) := by decide +kernel
theorem dX11_rules_51 : decode cX11_rules 51 = .ok (.iload_n 1, 1) := by decide +kernel
theorem dX11_rules_52 : decode cX11_rules 52 = .ok (.ireturn, 1) := by decide +kernel
theorem dX11_year_0 : decode cX11_year 0 = .ok (.aload_n 0, 1) := by decide +kernel
theorem dX11_year_1 : decode cX11_year 1 = .ok (.getfield 36, 3) := by decide +kernel
theorem dX11_year_4 : decode cX11_year 4 = .ok (.aload_n 0, 1) := by decide +kernel
theorem dX11_year_5 : decode cX11_year 5 = .ok (.getfield 36, 3) := by decide +kernel
theorem dX11_year_8 : decode cX11_year 8 = .ok (.getfield 127, 3) := by decide +kernel
theorem dX11_year_11 : decode cX11_year 11 = .ok (.invokevirtual 197, 3) := by decide +kernel
theorem dX11_year_14 : decode cX11_year 14 = .ok (.ifCond .eq 6, 3) := by decide +kernel
theorem dX11_year_17 : decode cX11_year 17 = .ok (.bipush (-4), 2) := by decide +kernel
theorem dX11_year_19 : decode cX11_year 19 = .ok (.ireturn, 1) := by decide +kernel
theorem dX11_year_20 : decode cX11_year 20 = .ok (.aload_n 0, 1) := by decide +kernel
theorem dX11_year_21 : decode cX11_year 21 = .ok (.aload_n 0, 1) := by decide +kernel
theorem dX11_year_22 : decode cX11_year 22 = .ok (.getfield 36, 3) := by decide +kernel
theorem dX11_year_25 : decode cX11_year 25 = .ok (.aload_n 0, 1) := by decide +kernel
theorem dX11_year_26 : decode cX11_year 26 = .ok (.getfield 36, 3) := by decide +kernel
theorem dX11_year_29 : decode cX11_year 29 = .ok (.getfield 127, 3) := by decide +kernel
theorem dX11_year_32 : decode cX11_year 32 = .ok (.invokevirtual 216, 3) := by decide +kernel
theorem dX11_year_35 : decode cX11_year 35 = .ok (.invokevirtual 219, 3) := by decide +kernel
theorem dX11_year_38 : decode cX11_year 38 = .ok (.ireturn, 1) := by decide +kernel
theorem dX11_on_0 : decode cX11_on 0 = .ok (.iload_n 1, 1) := by decide +kernel
theorem dX11_on_1 : decode cX11_on 1 = .ok (.iconst 0, 1) := by decide +kernel
theorem dX11_on_2 : decode cX11_on 2 = .ok (.bipush 16, 2) := by decide +kernel
theorem dX11_on_4 : decode cX11_on 4 = .ok (.invokestatic 112, 3) := by decide +kernel
theorem dX11_on_7 : decode cX11_on 7 = .ok (.ifCond .ne 5, 3) := by decide +kernel
theorem dX11_on_10 : decode cX11_on 10 = .ok (.iconst (-1), 1) := by decide +kernel
theorem dX11_on_11 : decode cX11_on 11 = .ok (.ireturn, 1) := by decide +kernel
theorem dX11_on_12 : decode cX11_on 12 = .ok (.aload_n 0, 1) := by decide +kernel
theorem dX11_on_13 : decode cX11_on 13 = .ok (.iload_n 1, 1) := by decide +kernel
theorem dX11_on_14 : decode cX11_on 14 = .ok (.invokevirtual 222, 3) := by decide +kernel
theorem dX11_on_17 : decode cX11_on 17 = .ok (.ireturn, 1) := by decide +kernel
theorem dX11_when_0 : decode cX11_when 0 = .ok (.aload_n 0, 1) := by decide +kernel
theorem dX11_when_1 : decode cX11_when 1 = .ok (.getfield 36, 3) := by decide +kernel
theorem dX11_when_4 : decode cX11_when 4 = .ok (.iload_n 1, 1) := by decide +kernel
theorem dX11_when_5 : decode cX11_when 5 = .ok (.invokevirtual 123, 3) := by decide +kernel
theorem dX11_when_8 : decode cX11_when 8 = .ok (.ifCond .ne 5, 3) := by decide +kernel
theorem dX11_when_11 : decode cX11_when 11 = .ok (.iconst (-1), 1) := by decide +kernel
theorem dX11_when_12 : decode cX11_when 12 = .ok (.ireturn, 1) := by decide +kernel
theorem dX11_when_13 : decode cX11_when 13 = .ok (.aload_n 0, 1) := by decide +kernel
theorem dX11_when_14 : decode cX11_when 14 = .ok (.iload_n 1, 1) := by decide +kernel
theorem dX11_when_15 : decode cX11_when 15 = .ok (.iconst 1, 1) := by decide +kernel
theorem dX11_when_16 : decode cX11_when 16 = .ok (.invokevirtual 225, 3) := by decide +kernel
theorem dX11_when_19 : decode cX11_when 19 = .ok (.ireturn, 1) := by decide +kernel
theorem dX11_gapFor_0 : decode cX11_gapFor 0 = .ok (.aload_n 0, 1) := by decide +kernel
theorem dX11_gapFor_1 : decode cX11_gapFor 1 = .ok (.getfield 36, 3) := by decide +kernel
theorem dX11_gapFor_4 : decode cX11_gapFor 4 = .ok (.iload_n 1, 1) := by decide +kernel
theorem dX11_gapFor_5 : decode cX11_gapFor 5 = .ok (.invokevirtual 123, 3) := by decide +kernel
theorem dX11_gapFor_8 : decode cX11_gapFor 8 = .ok (.ifCond .ne 5, 3) := by decide +kernel
theorem dX11_gapFor_11 : decode cX11_gapFor 11 = .ok (.iconst (-1), 1) := by decide +kernel
theorem dX11_gapFor_12 : decode cX11_gapFor 12 = .ok (.ireturn, 1) := by decide +kernel
theorem dX11_gapFor_13 : decode cX11_gapFor 13 = .ok (.aload_n 0, 1) := by decide +kernel
theorem dX11_gapFor_14 : decode cX11_gapFor 14 = .ok (.iload_n 1, 1) := by decide +kernel
theorem dX11_gapFor_15 : decode cX11_gapFor 15 = .ok (.iconst 2, 1) := by decide +kernel
theorem dX11_gapFor_16 : decode cX11_gapFor 16 = .ok (.bipush 9, 2) := by decide +kernel
theorem dX11_gapFor_18 : decode cX11_gapFor 18 = .ok (.invokevirtual 229, 3) := by decide +kernel
theorem dX11_gapFor_21 : decode cX11_gapFor 21 = .ok (.ireturn, 1) := by decide +kernel
theorem dX11_roomFor_0 : decode cX11_roomFor 0 = .ok (.aload_n 0, 1) := by decide +kernel
theorem dX11_roomFor_1 : decode cX11_roomFor 1 = .ok (.getfield 36, 3) := by decide +kernel
theorem dX11_roomFor_4 : decode cX11_roomFor 4 = .ok (.iload_n 1, 1) := by decide +kernel
theorem dX11_roomFor_5 : decode cX11_roomFor 5 = .ok (.invokevirtual 123, 3) := by decide +kernel
theorem dX11_roomFor_8 : decode cX11_roomFor 8 = .ok (.ifCond .ne 5, 3) := by decide +kernel
theorem dX11_roomFor_11 : decode cX11_roomFor 11 = .ok (.iconst (-1), 1) := by decide +kernel
theorem dX11_roomFor_12 : decode cX11_roomFor 12 = .ok (.ireturn, 1) := by decide +kernel
theorem dX11_roomFor_13 : decode cX11_roomFor 13 = .ok (.aload_n 0, 1) := by decide +kernel
theorem dX11_roomFor_14 : decode cX11_roomFor 14 = .ok (.iload_n 1, 1) := by decide +kernel
theorem dX11_roomFor_15 : decode cX11_roomFor 15 = .ok (.iconst 3, 1) := by decide +kernel
theorem dX11_roomFor_16 : decode cX11_roomFor 16 = .ok (.iconst 5, 1) := by decide +kernel
theorem dX11_roomFor_17 : decode cX11_roomFor 17 = .ok (.invokevirtual 229, 3) := by decide +kernel
theorem dX11_roomFor_20 : decode cX11_roomFor 20 = .ok (.ireturn, 1) := by decide +kernel
theorem dX11_itself_0 : decode cX11_itself 0 = .ok (.aload_n 0, 1) := by decide +kernel
theorem dX11_itself_1 : decode cX11_itself 1 = .ok (.getfield 36, 3) := by decide +kernel
theorem dX11_itself_4 : decode cX11_itself 4 = .ok (.iload_n 1, 1) := by decide +kernel
theorem dX11_itself_5 : decode cX11_itself 5 = .ok (.invokevirtual 123, 3) := by decide +kernel
theorem dX11_itself_8 : decode cX11_itself 8 = .ok (.ifCond .ne 5, 3) := by decide +kernel
theorem dX11_itself_11 : decode cX11_itself 11 = .ok (.iconst (-1), 1) := by decide +kernel
theorem dX11_itself_12 : decode cX11_itself 12 = .ok (.ireturn, 1) := by decide +kernel
theorem dX11_itself_13 : decode cX11_itself 13 = .ok (.aload_n 0, 1) := by decide +kernel
theorem dX11_itself_14 : decode cX11_itself 14 = .ok (.iload_n 1, 1) := by decide +kernel
theorem dX11_itself_15 : decode cX11_itself 15 = .ok (.iconst 0, 1) := by decide +kernel
theorem dX11_itself_16 : decode cX11_itself 16 = .ok (.invokevirtual 225, 3) := by decide +kernel
theorem dX11_itself_19 : decode cX11_itself 19 = .ok (.ireturn, 1) := by decide +kernel
theorem dX11_least_0 : decode cX11_least 0 = .ok (.aload_n 0, 1) := by decide +kernel
theorem dX11_least_1 : decode cX11_least 1 = .ok (.getfield 36, 3) := by decide +kernel
theorem dX11_least_4 : decode cX11_least 4 = .ok (.iload_n 1, 1) := by decide +kernel
theorem dX11_least_5 : decode cX11_least 5 = .ok (.invokevirtual 123, 3) := by decide +kernel
theorem dX11_least_8 : decode cX11_least 8 = .ok (.ifCond .ne 5, 3) := by decide +kernel
theorem dX11_least_11 : decode cX11_least 11 = .ok (.iconst (-1), 1) := by decide +kernel
theorem dX11_least_12 : decode cX11_least 12 = .ok (.ireturn, 1) := by decide +kernel
theorem dX11_least_13 : decode cX11_least 13 = .ok (.aload_n 0, 1) := by decide +kernel
theorem dX11_least_14 : decode cX11_least 14 = .ok (.getfield 36, 3) := by decide +kernel
theorem dX11_least_17 : decode cX11_least 17 = .ok (.getfield 127, 3) := by decide +kernel
theorem dX11_least_20 : decode cX11_least 20 = .ok (.iload_n 1, 1) := by decide +kernel
theorem dX11_least_21 : decode cX11_least 21 = .ok (.invokevirtual 142, 3) := by decide +kernel
theorem dX11_least_24 : decode cX11_least 24 = .ok (.ifCond .eq 6, 3) := by decide +kernel
theorem dX11_least_27 : decode cX11_least 27 = .ok (.bipush (-3), 2) := by decide +kernel
theorem dX11_least_29 : decode cX11_least 29 = .ok (.ireturn, 1) := by decide +kernel
theorem dX11_least_30 : decode cX11_least 30 = .ok (.iconst 0, 1) := by decide +kernel
theorem dX11_least_31 : decode cX11_least 31 = .ok (.istore_n 2, 1) := by decide +kernel
theorem dX11_least_32 : decode cX11_least 32 = .ok (.iload_n 2, 1) := by decide +kernel
theorem dX11_least_33 : decode cX11_least 33 = .ok (.iconst 3, 1) := by decide +kernel
theorem dX11_least_34 : decode cX11_least 34 = .ok (.if_icmp .gt 40, 3) := by decide +kernel
theorem dX11_least_37 : decode cX11_least 37 = .ok (.aload_n 0, 1) := by decide +kernel
theorem dX11_least_38 : decode cX11_least 38 = .ok (.getfield 36, 3) := by decide +kernel
theorem dX11_least_41 : decode cX11_least 41 = .ok (.getfield 127, 3) := by decide +kernel
theorem dX11_least_44 : decode cX11_least 44 = .ok (.getfield 133, 3) := by decide +kernel
theorem dX11_least_47 : decode cX11_least 47 = .ok (.iload_n 1, 1) := by decide +kernel
theorem dX11_least_48 : decode cX11_least 48 = .ok (.iaload, 1) := by decide +kernel
theorem dX11_least_49 : decode cX11_least 49 = .ok (.bipush 6, 2) := by decide +kernel
theorem dX11_least_51 : decode cX11_least 51 = .ok (.iload_n 2, 1) := by decide +kernel
theorem dX11_least_52 : decode cX11_least 52 = .ok (.imul, 1) := by decide +kernel
theorem dX11_least_53 : decode cX11_least 53 = .ok (.iadd, 1) := by decide +kernel
theorem dX11_least_54 : decode cX11_least 54 = .ok (.aload_n 0, 1) := by decide +kernel
theorem dX11_least_55 : decode cX11_least 55 = .ok (.getfield 36, 3) := by decide +kernel
theorem dX11_least_58 : decode cX11_least 58 = .ok (.getfield 149, 3) := by decide +kernel
theorem dX11_least_61 : decode cX11_least 61 = .ok (.iload_n 1, 1) := by decide +kernel
theorem dX11_least_62 : decode cX11_least 62 = .ok (.iaload, 1) := by decide +kernel
theorem dX11_least_63 : decode cX11_least 63 = .ok (.if_icmp .lt 5, 3) := by decide +kernel
theorem dX11_least_66 : decode cX11_least 66 = .ok (.iload_n 2, 1) := by decide +kernel
theorem dX11_least_67 : decode cX11_least 67 = .ok (.ireturn, 1) := by decide +kernel
theorem dX11_least_68 : decode cX11_least 68 = .ok (.iinc 2 1, 3) := by decide +kernel
theorem dX11_least_71 : decode cX11_least 71 = .ok (.goto (-39), 3) := by decide +kernel
theorem dX11_least_74 : decode cX11_least 74 = .ok (.bipush (-3), 2) := by decide +kernel
theorem dX11_least_76 : decode cX11_least 76 = .ok (.ireturn, 1) := by decide +kernel
theorem dX11_wave_0 : decode cX11_wave 0 = .ok (.aload_n 0, 1) := by decide +kernel
theorem dX11_wave_1 : decode cX11_wave 1 = .ok (.getfield 36, 3) := by decide +kernel
theorem dX11_wave_4 : decode cX11_wave 4 = .ok (.iload_n 1, 1) := by decide +kernel
theorem dX11_wave_5 : decode cX11_wave 5 = .ok (.invokevirtual 123, 3) := by decide +kernel
theorem dX11_wave_8 : decode cX11_wave 8 = .ok (.ifCond .eq 13, 3) := by decide +kernel
theorem dX11_wave_11 : decode cX11_wave 11 = .ok (.iload_n 2, 1) := by decide +kernel
theorem dX11_wave_12 : decode cX11_wave 12 = .ok (.iconst 0, 1) := by decide +kernel
theorem dX11_wave_13 : decode cX11_wave 13 = .ok (.bipush 16, 2) := by decide +kernel
theorem dX11_wave_15 : decode cX11_wave 15 = .ok (.invokestatic 112, 3) := by decide +kernel
theorem dX11_wave_18 : decode cX11_wave 18 = .ok (.ifCond .ne 5, 3) := by decide +kernel
theorem dX11_wave_21 : decode cX11_wave 21 = .ok (.iconst (-1), 1) := by decide +kernel
theorem dX11_wave_22 : decode cX11_wave 22 = .ok (.ireturn, 1) := by decide +kernel
theorem dX11_wave_23 : decode cX11_wave 23 = .ok (.aload_n 0, 1) := by decide +kernel
theorem dX11_wave_24 : decode cX11_wave 24 = .ok (.getfield 59, 3) := by decide +kernel
theorem dX11_wave_27 : decode cX11_wave 27 = .ok (.aload_n 0, 1) := by decide +kernel
theorem dX11_wave_28 : decode cX11_wave 28 = .ok (.getfield 36, 3) := by decide +kernel
theorem dX11_wave_31 : decode cX11_wave 31 = .ok (.getfield 127, 3) := by decide +kernel
theorem dX11_wave_34 : decode cX11_wave 34 = .ok (.invokevirtual 233, 3) := by decide +kernel
theorem dX11_wave_37 : decode cX11_wave 37 = .ok (.aload_n 0, 1) := by decide +kernel
theorem dX11_wave_38 : decode cX11_wave 38 = .ok (.getfield 59, 3) := by decide +kernel
theorem dX11_wave_41 : decode cX11_wave 41 = .ok (.iload_n 1, 1) := by decide +kernel
theorem dX11_wave_42 : decode cX11_wave 42 = .ok (.invokevirtual 142, 3) := by decide +kernel
theorem dX11_wave_45 : decode cX11_wave 45 = .ok (.ifCond .ne 15, 3) := by decide +kernel
theorem dX11_wave_48 : decode cX11_wave 48 = .ok (.aload_n 0, 1) := by decide +kernel
theorem dX11_wave_49 : decode cX11_wave 49 = .ok (.getfield 36, 3) := by decide +kernel
theorem dX11_wave_52 : decode cX11_wave 52 = .ok (.aload_n 0, 1) := by decide +kernel
theorem dX11_wave_53 : decode cX11_wave 53 = .ok (.getfield 59, 3) := by decide +kernel
theorem dX11_wave_56 : decode cX11_wave 56 = .ok (.iload_n 1, 1) := by decide +kernel
theorem dX11_wave_57 : decode cX11_wave 57 = .ok (.invokevirtual 237, 3) := by decide +kernel
theorem dX11_wave_60 : decode cX11_wave 60 = .ok (.iconst 0, 1) := by decide +kernel
theorem dX11_wave_61 : decode cX11_wave 61 = .ok (.istore_n 3, 1) := by decide +kernel
theorem dX11_wave_62 : decode cX11_wave 62 = .ok (.iload_n 3, 1) := by decide +kernel
theorem dX11_wave_63 : decode cX11_wave 63 = .ok (.iload_n 2, 1) := by decide +kernel
theorem dX11_wave_64 : decode cX11_wave 64 = .ok (.if_icmp .ge 36, 3) := by decide +kernel
theorem dX11_wave_67 : decode cX11_wave 67 = .ok (.aload_n 0, 1) := by decide +kernel
theorem dX11_wave_68 : decode cX11_wave 68 = .ok (.getfield 36, 3) := by decide +kernel
theorem dX11_wave_71 : decode cX11_wave 71 = .ok (.aload_n 0, 1) := by decide +kernel
theorem dX11_wave_72 : decode cX11_wave 72 = .ok (.getfield 59, 3) := by decide +kernel
theorem dX11_wave_75 : decode cX11_wave 75 = .ok (.invokevirtual 197, 3) := by decide +kernel
theorem dX11_wave_78 : decode cX11_wave 78 = .ok (.ifCond .ne 22, 3) := by decide +kernel
theorem dX11_wave_81 : decode cX11_wave 81 = .ok (.aload_n 0, 1) := by decide +kernel
theorem dX11_wave_82 : decode cX11_wave 82 = .ok (.getfield 36, 3) := by decide +kernel
theorem dX11_wave_85 : decode cX11_wave 85 = .ok (.aload_n 0, 1) := by decide +kernel
theorem dX11_wave_86 : decode cX11_wave 86 = .ok (.getfield 59, 3) := by decide +kernel
theorem dX11_wave_89 : decode cX11_wave 89 = .ok (.iconst 0, 1) := by decide +kernel
theorem dX11_wave_90 : decode cX11_wave 90 = .ok (.invokevirtual 241, 3) := by decide +kernel
theorem dX11_wave_93 : decode cX11_wave 93 = .ok (.pop, 1) := by decide +kernel
theorem dX11_wave_94 : decode cX11_wave 94 = .ok (.iinc 3 1, 3) := by decide +kernel
theorem dX11_wave_97 : decode cX11_wave 97 = .ok (.goto (-35), 3) := by decide +kernel
theorem dX11_wave_100 : decode cX11_wave 100 = .ok (.aload_n 0, 1) := by decide +kernel
theorem dX11_wave_101 : decode cX11_wave 101 = .ok (.getfield 59, 3) := by decide +kernel
theorem dX11_wave_104 : decode cX11_wave 104 = .ok (.getfield 191, 3) := by decide +kernel
theorem dX11_wave_107 : decode cX11_wave 107 = .ok (.ireturn, 1) := by decide +kernel
theorem dX11_chains_0 : decode cX11_chains 0 = .ok (.iload_n 1, 1) := by decide +kernel
theorem dX11_chains_1 : decode cX11_chains 1 = .ok (.iconst (-1), 1) := by decide +kernel
theorem dX11_chains_2 : decode cX11_chains 2 = .ok (.if_icmp .ne 8, 3) := by decide +kernel
theorem dX11_chains_5 : decode cX11_chains 5 = .ok (.aload_n 0, 1) := by decide +kernel
theorem dX11_chains_6 : decode cX11_chains 6 = .ok (.invokevirtual 244, 3) := by decide +kernel
theorem dX11_chains_9 : decode cX11_chains 9 = .ok (.ireturn, 1) := by decide +kernel
theorem dX11_chains_10 : decode cX11_chains 10 = .ok (.aload_n 0, 1) := by decide +kernel
theorem dX11_chains_11 : decode cX11_chains 11 = .ok (.getfield 36, 3) := by decide +kernel
theorem dX11_chains_14 : decode cX11_chains 14 = .ok (.iload_n 1, 1) := by decide +kernel
theorem dX11_chains_15 : decode cX11_chains 15 = .ok (.invokevirtual 123, 3) := by decide +kernel
theorem dX11_chains_18 : decode cX11_chains 18 = .ok (.ifCond .ne 5, 3) := by decide +kernel
theorem dX11_chains_21 : decode cX11_chains 21 = .ok (.iconst (-1), 1) := by decide +kernel
theorem dX11_chains_22 : decode cX11_chains 22 = .ok (.ireturn, 1) := by decide +kernel
theorem dX11_chains_23 : decode cX11_chains 23 = .ok (.aload_n 0, 1) := by decide +kernel
theorem dX11_chains_24 : decode cX11_chains 24 = .ok (.getfield 36, 3) := by decide +kernel
theorem dX11_chains_27 : decode cX11_chains 27 = .ok (.iload_n 1, 1) := by decide +kernel
theorem dX11_chains_28 : decode cX11_chains 28 = .ok (.invokevirtual 248, 3) := by decide +kernel
theorem dX11_chains_31 : decode cX11_chains 31 = .ok (.ireturn, 1) := by decide +kernel
theorem dX11_best_0 : decode cX11_best 0 = .ok (.iload_n 1, 1) := by decide +kernel
theorem dX11_best_1 : decode cX11_best 1 = .ok (.iconst 0, 1) := by decide +kernel
theorem dX11_best_2 : decode cX11_best 2 = .ok (.iconst 4, 1) := by decide +kernel
theorem dX11_best_3 : decode cX11_best 3 = .ok (.invokestatic 112, 3) := by decide +kernel
theorem dX11_best_6 : decode cX11_best 6 = .ok (.ifCond .ne 5, 3) := by decide +kernel
theorem dX11_best_9 : decode cX11_best 9 = .ok (.iconst (-1), 1) := by decide +kernel
theorem dX11_best_10 : decode cX11_best 10 = .ok (.ireturn, 1) := by decide +kernel
theorem dX11_best_11 : decode cX11_best 11 = .ok (.aload_n 0, 1) := by decide +kernel
theorem dX11_best_12 : decode cX11_best 12 = .ok (.getfield 52, 3) := by decide +kernel
theorem dX11_best_15 : decode cX11_best 15 = .ok (.invokevirtual 251, 3) := by decide +kernel
theorem dX11_best_18 : decode cX11_best 18 = .ok (.aload_n 0, 1) := by decide +kernel
theorem dX11_best_19 : decode cX11_best 19 = .ok (.getfield 52, 3) := by decide +kernel
theorem dX11_best_22 : decode cX11_best 22 = .ok (.iconst 0, 1) := by decide +kernel
theorem dX11_best_23 : decode cX11_best 23 = .ok (.iload_n 1, 1) := by decide +kernel
theorem dX11_best_24 : decode cX11_best 24 = .ok (.invokevirtual 254, 3) := by decide +kernel
theorem dX11_best_27 : decode cX11_best 27 = .ok (.ireturn, 1) := by decide +kernel
theorem dX11_ith_0 : decode cX11_ith 0 = .ok (.iload_n 1, 1) := by decide +kernel
theorem dX11_ith_1 : decode cX11_ith 1 = .ok (.iconst 0, 1) := by decide +kernel
theorem dX11_ith_2 : decode cX11_ith 2 = .ok (.iconst 4, 1) := by decide +kernel
theorem dX11_ith_3 : decode cX11_ith 3 = .ok (.invokestatic 112, 3) := by decide +kernel
theorem dX11_ith_6 : decode cX11_ith 6 = .ok (.ifCond .eq 12, 3) := by decide +kernel
theorem dX11_ith_9 : decode cX11_ith 9 = .ok (.iload_n 2, 1) := by decide +kernel
theorem dX11_ith_10 : decode cX11_ith 10 = .ok (.iconst 0, 1) := by decide +kernel
theorem dX11_ith_11 : decode cX11_ith 11 = .ok (.iconst 3, 1) := by decide +kernel
theorem dX11_ith_12 : decode cX11_ith 12 = .ok (.invokestatic 112, 3) := by decide +kernel
theorem dX11_ith_15 : decode cX11_ith 15 = .ok (.ifCond .ne 5, 3) := by decide +kernel
theorem dX11_ith_18 : decode cX11_ith 18 = .ok (.iconst (-1), 1) := by decide +kernel
theorem dX11_ith_19 : decode cX11_ith 19 = .ok (.ireturn, 1) := by decide +kernel
theorem dX11_ith_20 : decode cX11_ith 20 = .ok (.iload_n 2, 1) := by decide +kernel
theorem dX11_ith_21 : decode cX11_ith 21 = .ok (.aload_n 0, 1) := by decide +kernel
theorem dX11_ith_22 : decode cX11_ith 22 = .ok (.iload_n 1, 1) := by decide +kernel
theorem dX11_ith_23 : decode cX11_ith 23 = .ok (.invokevirtual 257, 3) := by decide +kernel
theorem dX11_ith_26 : decode cX11_ith 26 = .ok (.if_icmp .lt 6, 3) := by decide +kernel
theorem dX11_ith_29 : decode cX11_ith 29 = .ok (.bipush (-3), 2) := by decide +kernel
theorem dX11_ith_31 : decode cX11_ith 31 = .ok (.ireturn, 1) := by decide +kernel
theorem dX11_ith_32 : decode cX11_ith 32 = .ok (.aload_n 0, 1) := by decide +kernel
theorem dX11_ith_33 : decode cX11_ith 33 = .ok (.getfield 52, 3) := by decide +kernel
theorem dX11_ith_36 : decode cX11_ith 36 = .ok (.invokevirtual 251, 3) := by decide +kernel
theorem dX11_ith_39 : decode cX11_ith 39 = .ok (.aload_n 0, 1) := by decide +kernel
theorem dX11_ith_40 : decode cX11_ith 40 = .ok (.getfield 52, 3) := by decide +kernel
theorem dX11_ith_43 : decode cX11_ith 43 = .ok (.iconst 0, 1) := by decide +kernel
theorem dX11_ith_44 : decode cX11_ith 44 = .ok (.iload_n 1, 1) := by decide +kernel
theorem dX11_ith_45 : decode cX11_ith 45 = .ok (.invokevirtual 254, 3) := by decide +kernel
theorem dX11_ith_48 : decode cX11_ith 48 = .ok (.pop, 1) := by decide +kernel
theorem dX11_ith_49 : decode cX11_ith 49 = .ok (.aload_n 0, 1) := by decide +kernel
theorem dX11_ith_50 : decode cX11_ith 50 = .ok (.getfield 52, 3) := by decide +kernel
theorem dX11_ith_53 : decode cX11_ith 53 = .ok (.getfield 260, 3) := by decide +kernel
theorem dX11_ith_56 : decode cX11_ith 56 = .ok (.iconst 0, 1) := by decide +kernel
theorem dX11_ith_57 : decode cX11_ith 57 = .ok (.aaload, 1) := by decide +kernel
theorem dX11_ith_58 : decode cX11_ith 58 = .ok (.iload_n 2, 1) := by decide +kernel
theorem dX11_ith_59 : decode cX11_ith 59 = .ok (.iaload, 1) := by decide +kernel
theorem dX11_ith_60 : decode cX11_ith 60 = .ok (.ireturn, 1) := by decide +kernel
theorem dX11_ways_0 : decode cX11_ways 0 = .ok (.iload_n 1, 1) := by decide +kernel
theorem dX11_ways_1 : decode cX11_ways 1 = .ok (.iconst 0, 1) := by decide +kernel
theorem dX11_ways_2 : decode cX11_ways 2 = .ok (.iconst 4, 1) := by decide +kernel
theorem dX11_ways_3 : decode cX11_ways 3 = .ok (.invokestatic 112, 3) := by decide +kernel
theorem dX11_ways_6 : decode cX11_ways 6 = .ok (.ifCond .ne 5, 3) := by decide +kernel
theorem dX11_ways_9 : decode cX11_ways 9 = .ok (.iconst (-1), 1) := by decide +kernel
theorem dX11_ways_10 : decode cX11_ways 10 = .ok (.ireturn, 1) := by decide +kernel
theorem dX11_ways_11 : decode cX11_ways 11 = .ok (.aload_n 0, 1) := by decide +kernel
theorem dX11_ways_12 : decode cX11_ways 12 = .ok (.getfield 52, 3) := by decide +kernel
theorem dX11_ways_15 : decode cX11_ways 15 = .ok (.invokevirtual 251, 3) := by decide +kernel
theorem dX11_ways_18 : decode cX11_ways 18 = .ok (.aload_n 0, 1) := by decide +kernel
theorem dX11_ways_19 : decode cX11_ways 19 = .ok (.getfield 52, 3) := by decide +kernel
theorem dX11_ways_22 : decode cX11_ways 22 = .ok (.iconst 0, 1) := by decide +kernel
theorem dX11_ways_23 : decode cX11_ways 23 = .ok (.iload_n 1, 1) := by decide +kernel
theorem dX11_ways_24 : decode cX11_ways 24 = .ok (.invokevirtual 254, 3) := by decide +kernel
theorem dX11_ways_27 : decode cX11_ways 27 = .ok (.pop, 1) := by decide +kernel
theorem dX11_ways_28 : decode cX11_ways 28 = .ok (.aload_n 0, 1) := by decide +kernel
theorem dX11_ways_29 : decode cX11_ways 29 = .ok (.getfield 52, 3) := by decide +kernel
theorem dX11_ways_32 : decode cX11_ways 32 = .ok (.getfield 263, 3) := by decide +kernel
theorem dX11_ways_35 : decode cX11_ways 35 = .ok (.iconst 0, 1) := by decide +kernel
theorem dX11_ways_36 : decode cX11_ways 36 = .ok (.iaload, 1) := by decide +kernel
theorem dX11_ways_37 : decode cX11_ways 37 = .ok (.ireturn, 1) := by decide +kernel
theorem dX11_line_0 : decode cX11_line 0 = .ok (.iload_n 1, 1) := by decide +kernel
theorem dX11_line_1 : decode cX11_line 1 = .ok (.iconst 0, 1) := by decide +kernel
theorem dX11_line_2 : decode cX11_line 2 = .ok (.iconst 4, 1) := by decide +kernel
theorem dX11_line_3 : decode cX11_line 3 = .ok (.invokestatic 112, 3) := by decide +kernel
theorem dX11_line_6 : decode cX11_line 6 = .ok (.ifCond .eq 14, 3) := by decide +kernel
theorem dX11_line_9 : decode cX11_line 9 = .ok (.aload_n 0, 1) := by decide +kernel
theorem dX11_line_10 : decode cX11_line 10 = .ok (.getfield 36, 3) := by decide +kernel
theorem dX11_line_13 : decode cX11_line 13 = .ok (.iload_n 2, 1) := by decide +kernel
theorem dX11_line_14 : decode cX11_line 14 = .ok (.invokevirtual 266, 3) := by decide +kernel
theorem dX11_line_17 : decode cX11_line 17 = .ok (.ifCond .ne 5, 3) := by decide +kernel
theorem dX11_line_20 : decode cX11_line 20 = .ok (.iconst (-1), 1) := by decide +kernel
theorem dX11_line_21 : decode cX11_line 21 = .ok (.ireturn, 1) := by decide +kernel
theorem dX11_line_22 : decode cX11_line 22 = .ok (.aload_n 0, 1) := by decide +kernel
theorem dX11_line_23 : decode cX11_line 23 = .ok (.getfield 52, 3) := by decide +kernel
theorem dX11_line_26 : decode cX11_line 26 = .ok (.invokevirtual 251, 3) := by decide +kernel
theorem dX11_line_29 : decode cX11_line 29 = .ok (.aload_n 0, 1) := by decide +kernel
theorem dX11_line_30 : decode cX11_line 30 = .ok (.getfield 52, 3) := by decide +kernel
theorem dX11_line_33 : decode cX11_line 33 = .ok (.iconst 0, 1) := by decide +kernel
theorem dX11_line_34 : decode cX11_line 34 = .ok (.iload_n 1, 1) := by decide +kernel
theorem dX11_line_35 : decode cX11_line 35 = .ok (.iload_n 2, 1) := by decide +kernel
theorem dX11_line_36 : decode cX11_line 36 = .ok (.invokevirtual 269, 3) := by decide +kernel
theorem dX11_line_39 : decode cX11_line 39 = .ok (.istore_n 3, 1) := by decide +kernel
theorem dX11_line_40 : decode cX11_line 40 = .ok (.iload_n 3, 1) := by decide +kernel
theorem dX11_line_41 : decode cX11_line 41 = .ok (.iconst 4, 1) := by decide +kernel
theorem dX11_line_42 : decode cX11_line 42 = .ok (.if_icmp .le 8, 3) := by decide +kernel
theorem dX11_line_45 : decode cX11_line 45 = .ok (.bipush (-3), 2) := by decide +kernel
theorem dX11_line_47 : decode cX11_line 47 = .ok (.goto 4, 3) := by decide +kernel
theorem dX11_line_50 : decode cX11_line 50 = .ok (.iload_n 3, 1) := by decide +kernel
theorem dX11_line_51 : decode cX11_line 51 = .ok (.ireturn, 1) := by decide +kernel
theorem dX11_bars_0 : decode cX11_bars 0 = .ok (.iload_n 1, 1) := by decide +kernel
theorem dX11_bars_1 : decode cX11_bars 1 = .ok (.iconst 0, 1) := by decide +kernel
theorem dX11_bars_2 : decode cX11_bars 2 = .ok (.iconst 4, 1) := by decide +kernel
theorem dX11_bars_3 : decode cX11_bars 3 = .ok (.invokestatic 112, 3) := by decide +kernel
theorem dX11_bars_6 : decode cX11_bars 6 = .ok (.ifCond .eq 14, 3) := by decide +kernel
theorem dX11_bars_9 : decode cX11_bars 9 = .ok (.aload_n 0, 1) := by decide +kernel
theorem dX11_bars_10 : decode cX11_bars 10 = .ok (.getfield 36, 3) := by decide +kernel
theorem dX11_bars_13 : decode cX11_bars 13 = .ok (.iload_n 2, 1) := by decide +kernel
theorem dX11_bars_14 : decode cX11_bars 14 = .ok (.invokevirtual 266, 3) := by decide +kernel
theorem dX11_bars_17 : decode cX11_bars 17 = .ok (.ifCond .ne 5, 3) := by decide +kernel
theorem dX11_bars_20 : decode cX11_bars 20 = .ok (.iconst (-1), 1) := by decide +kernel
theorem dX11_bars_21 : decode cX11_bars 21 = .ok (.ireturn, 1) := by decide +kernel
theorem dX11_bars_22 : decode cX11_bars 22 = .ok (.aload_n 0, 1) := by decide +kernel
theorem dX11_bars_23 : decode cX11_bars 23 = .ok (.getfield 52, 3) := by decide +kernel
theorem dX11_bars_26 : decode cX11_bars 26 = .ok (.invokevirtual 251, 3) := by decide +kernel
theorem dX11_bars_29 : decode cX11_bars 29 = .ok (.iload_n 2, 1) := by decide +kernel
theorem dX11_bars_30 : decode cX11_bars 30 = .ok (.aload_n 0, 1) := by decide +kernel
theorem dX11_bars_31 : decode cX11_bars 31 = .ok (.getfield 52, 3) := by decide +kernel
theorem dX11_bars_34 : decode cX11_bars 34 = .ok (.iconst 0, 1) := by decide +kernel
theorem dX11_bars_35 : decode cX11_bars 35 = .ok (.iload_n 1, 1) := by decide +kernel
theorem dX11_bars_36 : decode cX11_bars 36 = .ok (.invokevirtual 272, 3) := by decide +kernel
theorem dX11_bars_39 : decode cX11_bars 39 = .ok (.iconst (-1), 1) := by decide +kernel
theorem dX11_bars_40 : decode cX11_bars 40 = .ok (.ixor, 1) := by decide +kernel
theorem dX11_bars_41 : decode cX11_bars 41 = .ok (.iand, 1) := by decide +kernel
theorem dX11_bars_42 : decode cX11_bars 42 = .ok (.istore_n 3, 1) := by decide +kernel
theorem dX11_bars_43 : decode cX11_bars 43 = .ok (.iload_n 3, 1) := by decide +kernel
theorem dX11_bars_44 : decode cX11_bars 44 = .ok (.invokestatic 275, 3) := by decide +kernel
theorem dX11_bars_47 : decode cX11_bars 47 = .ok (.ireturn, 1) := by decide +kernel
theorem dX11_game_0 : decode cX11_game 0 = .ok (.iload_n 1, 1) := by decide +kernel
theorem dX11_game_1 : decode cX11_game 1 = .ok (.iconst 1, 1) := by decide +kernel
theorem dX11_game_2 : decode cX11_game 2 = .ok (.iconst 4, 1) := by decide +kernel
theorem dX11_game_3 : decode cX11_game 3 = .ok (.invokestatic 112, 3) := by decide +kernel
theorem dX11_game_6 : decode cX11_game 6 = .ok (.ifCond .ne 5, 3) := by decide +kernel
theorem dX11_game_9 : decode cX11_game 9 = .ok (.iconst (-1), 1) := by decide +kernel
theorem dX11_game_10 : decode cX11_game 10 = .ok (.ireturn, 1) := by decide +kernel
theorem dX11_game_11 : decode cX11_game 11 = .ok (.aload_n 0, 1) := by decide +kernel
theorem dX11_game_12 : decode cX11_game 12 = .ok (.getfield 52, 3) := by decide +kernel
theorem dX11_game_15 : decode cX11_game 15 = .ok (.invokevirtual 251, 3) := by decide +kernel
theorem dX11_game_18 : decode cX11_game 18 = .ok (.aload_n 0, 1) := by decide +kernel
theorem dX11_game_19 : decode cX11_game 19 = .ok (.getfield 52, 3) := by decide +kernel
theorem dX11_game_22 : decode cX11_game 22 = .ok (.iconst 0, 1) := by decide +kernel
theorem dX11_game_23 : decode cX11_game 23 = .ok (.iload_n 1, 1) := by decide +kernel
theorem dX11_game_24 : decode cX11_game 24 = .ok (.invokevirtual 278, 3) := by decide +kernel
theorem dX11_game_27 : decode cX11_game 27 = .ok (.ireturn, 1) := by decide +kernel
theorem dX11_play_0 : decode cX11_play 0 = .ok (.iload_n 1, 1) := by decide +kernel
theorem dX11_play_1 : decode cX11_play 1 = .ok (.iconst 1, 1) := by decide +kernel
theorem dX11_play_2 : decode cX11_play 2 = .ok (.iconst 4, 1) := by decide +kernel
theorem dX11_play_3 : decode cX11_play 3 = .ok (.invokestatic 112, 3) := by decide +kernel
theorem dX11_play_6 : decode cX11_play 6 = .ok (.ifCond .ne 5, 3) := by decide +kernel
theorem dX11_play_9 : decode cX11_play 9 = .ok (.iconst (-1), 1) := by decide +kernel
theorem dX11_play_10 : decode cX11_play 10 = .ok (.ireturn, 1) := by decide +kernel
theorem dX11_play_11 : decode cX11_play 11 = .ok (.aload_n 0, 1) := by decide +kernel
theorem dX11_play_12 : decode cX11_play 12 = .ok (.getfield 36, 3) := by decide +kernel
theorem dX11_play_15 : decode cX11_play 15 = .ok (.aload_n 0, 1) := by decide +kernel
theorem dX11_play_16 : decode cX11_play 16 = .ok (.getfield 36, 3) := by decide +kernel
theorem dX11_play_19 : decode cX11_play 19 = .ok (.getfield 127, 3) := by decide +kernel
theorem dX11_play_22 : decode cX11_play 22 = .ok (.invokevirtual 197, 3) := by decide +kernel
theorem dX11_play_25 : decode cX11_play 25 = .ok (.ifCond .eq 6, 3) := by decide +kernel
theorem dX11_play_28 : decode cX11_play 28 = .ok (.bipush (-3), 2) := by decide +kernel
theorem dX11_play_30 : decode cX11_play 30 = .ok (.ireturn, 1) := by decide +kernel
theorem dX11_play_31 : decode cX11_play 31 = .ok (.aload_n 0, 1) := by decide +kernel
theorem dX11_play_32 : decode cX11_play 32 = .ok (.getfield 52, 3) := by decide +kernel
theorem dX11_play_35 : decode cX11_play 35 = .ok (.invokevirtual 251, 3) := by decide +kernel
theorem dX11_play_38 : decode cX11_play 38 = .ok (.aload_n 0, 1) := by decide +kernel
theorem dX11_play_39 : decode cX11_play 39 = .ok (.getfield 52, 3) := by decide +kernel
theorem dX11_play_42 : decode cX11_play 42 = .ok (.iconst 0, 1) := by decide +kernel
theorem dX11_play_43 : decode cX11_play 43 = .ok (.iload_n 1, 1) := by decide +kernel
theorem dX11_play_44 : decode cX11_play 44 = .ok (.invokevirtual 278, 3) := by decide +kernel
theorem dX11_play_47 : decode cX11_play 47 = .ok (.pop, 1) := by decide +kernel
theorem dX11_play_48 : decode cX11_play 48 = .ok (.aload_n 0, 1) := by decide +kernel
theorem dX11_play_49 : decode cX11_play 49 = .ok (.getfield 52, 3) := by decide +kernel
theorem dX11_play_52 : decode cX11_play 52 = .ok (.getfield 260, 3) := by decide +kernel
theorem dX11_play_55 : decode cX11_play 55 = .ok (.iconst 0, 1) := by decide +kernel
theorem dX11_play_56 : decode cX11_play 56 = .ok (.aaload, 1) := by decide +kernel
theorem dX11_play_57 : decode cX11_play 57 = .ok (.iconst 0, 1) := by decide +kernel
theorem dX11_play_58 : decode cX11_play 58 = .ok (.iaload, 1) := by decide +kernel
theorem dX11_play_59 : decode cX11_play 59 = .ok (.ireturn, 1) := by decide +kernel
theorem dX11_report_0 : decode cX11_report 0 = .ok (.iload_n 1, 1) := by decide +kernel
theorem dX11_report_1 : decode cX11_report 1 = .ok (.iconst 0, 1) := by decide +kernel
theorem dX11_report_2 : decode cX11_report 2 = .ok (.bipush 15, 2) := by decide +kernel
theorem dX11_report_4 : decode cX11_report 4 = .ok (.invokestatic 112, 3) := by decide +kernel
theorem dX11_report_7 : decode cX11_report 7 = .ok (.ifCond .eq 12, 3) := by decide +kernel
theorem dX11_report_10 : decode cX11_report 10 = .ok (.iload_n 2, 1) := by decide +kernel
theorem dX11_report_11 : decode cX11_report 11 = .ok (.iconst 0, 1) := by decide +kernel
theorem dX11_report_12 : decode cX11_report 12 = .ok (.iconst 1, 1) := by decide +kernel
theorem dX11_report_13 : decode cX11_report 13 = .ok (.invokestatic 112, 3) := by decide +kernel
theorem dX11_report_16 : decode cX11_report 16 = .ok (.ifCond .ne 5, 3) := by decide +kernel
theorem dX11_report_19 : decode cX11_report 19 = .ok (.iconst (-1), 1) := by decide +kernel
theorem dX11_report_20 : decode cX11_report 20 = .ok (.ireturn, 1) := by decide +kernel
theorem dX11_report_21 : decode cX11_report 21 = .ok (.iload_n 2, 1) := by decide +kernel
theorem dX11_report_22 : decode cX11_report 22 = .ok (.ifCond .ne 8, 3) := by decide +kernel
theorem dX11_report_25 : decode cX11_report 25 = .ok (.bipush 99, 2) := by decide +kernel
theorem dX11_report_27 : decode cX11_report 27 = .ok (.goto 5, 3) := by decide +kernel
theorem dX11_report_30 : decode cX11_report 30 = .ok (.bipush 16, 2) := by decide +kernel
theorem dX11_report_32 : decode cX11_report 32 = .ok (.istore 5, 2) := by decide +kernel
theorem dX11_report_34 : decode cX11_report 34 = .ok (.iload_n 3, 1) := by decide +kernel
theorem dX11_report_35 : decode cX11_report 35 = .ok (.iconst 0, 1) := by decide +kernel
theorem dX11_report_36 : decode cX11_report 36 = .ok (.iload 5, 2) := by decide +kernel
theorem dX11_report_38 : decode cX11_report 38 = .ok (.invokestatic 112, 3) := by decide +kernel
theorem dX11_report_41 : decode cX11_report 41 = .ok (.ifCond .eq 14, 3) := by decide +kernel
theorem dX11_report_44 : decode cX11_report 44 = .ok (.iload 4, 2) := by decide +kernel
theorem dX11_report_46 : decode cX11_report 46 = .ok (.iload_n 3, 1) := by decide +kernel
theorem dX11_report_47 : decode cX11_report 47 = .ok (.iload 5, 2) := by decide +kernel
theorem dX11_report_49 : decode cX11_report 49 = .ok (.invokestatic 112, 3) := by decide +kernel
theorem dX11_report_52 : decode cX11_report 52 = .ok (.ifCond .ne 5, 3) := by decide +kernel
theorem dX11_report_55 : decode cX11_report 55 = .ok (.iconst (-1), 1) := by decide +kernel
theorem dX11_report_56 : decode cX11_report 56 = .ok (.ireturn, 1) := by decide +kernel
theorem dX11_report_57 : decode cX11_report 57 = .ok (.aload_n 0, 1) := by decide +kernel
theorem dX11_report_58 : decode cX11_report 58 = .ok (.getfield 36, 3) := by decide +kernel
theorem dX11_report_61 : decode cX11_report 61 = .ok (.getfield 281, 3) := by decide +kernel
theorem dX11_report_64 : decode cX11_report 64 = .ok (.getfield 285, 3) := by decide +kernel
theorem dX11_report_67 : decode cX11_report 67 = .ok (.bipush 6, 2) := by decide +kernel
theorem dX11_report_69 : decode cX11_report 69 = .ok (.if_icmp .lt 6, 3) := by decide +kernel
theorem dX11_report_72 : decode cX11_report 72 = .ok (.bipush (-2), 2) := by decide +kernel
theorem dX11_report_74 : decode cX11_report 74 = .ok (.ireturn, 1) := by decide +kernel
theorem dX11_report_75 : decode cX11_report 75 = .ok (.aload_n 0, 1) := by decide +kernel
theorem dX11_report_76 : decode cX11_report 76 = .ok (.getfield 36, 3) := by decide +kernel
theorem dX11_report_79 : decode cX11_report 79 = .ok (.getfield 281, 3) := by decide +kernel
theorem dX11_report_82 : decode cX11_report 82 = .ok (.iload_n 1, 1) := by decide +kernel
theorem dX11_report_83 : decode cX11_report 83 = .ok (.iload_n 2, 1) := by decide +kernel
theorem dX11_report_84 : decode cX11_report 84 = .ok (.iload_n 3, 1) := by decide +kernel
theorem dX11_report_85 : decode cX11_report 85 = .ok (.iload 4, 2) := by decide +kernel
theorem dX11_report_87 : decode cX11_report 87 = .ok (.invokevirtual 288, 3) := by decide +kernel
theorem dX11_report_90 : decode cX11_report 90 = .ok (.ireturn, 1) := by decide +kernel
theorem dX11_forget_0 : decode cX11_forget 0 = .ok (.aload_n 0, 1) := by decide +kernel
theorem dX11_forget_1 : decode cX11_forget 1 = .ok (.getfield 36, 3) := by decide +kernel
theorem dX11_forget_4 : decode cX11_forget 4 = .ok (.getfield 281, 3) := by decide +kernel
theorem dX11_forget_7 : decode cX11_forget 7 = .ok (.getfield 285, 3) := by decide +kernel
theorem dX11_forget_10 : decode cX11_forget 10 = .ok (.istore_n 1, 1) := by decide +kernel
theorem dX11_forget_11 : decode cX11_forget 11 = .ok (.aload_n 0, 1) := by decide +kernel
theorem dX11_forget_12 : decode cX11_forget 12 = .ok (.getfield 36, 3) := by decide +kernel
theorem dX11_forget_15 : decode cX11_forget 15 = .ok (.getfield 281, 3) := by decide +kernel
theorem dX11_forget_18 : decode cX11_forget 18 = .ok (.iconst 0, 1) := by decide +kernel
theorem dX11_forget_19 : decode cX11_forget 19 = .ok (.putfield 285, 3) := by decide +kernel
theorem dX11_forget_22 : decode cX11_forget 22 = .ok (.iload_n 1, 1) := by decide +kernel
theorem dX11_forget_23 : decode cX11_forget 23 = .ok (.ireturn, 1) := by decide +kernel
theorem dX11_lone_0 : decode cX11_lone 0 = .ok (.iload_n 1, 1) := by decide +kernel
theorem dX11_lone_1 : decode cX11_lone 1 = .ok (.iconst 0, 1) := by decide +kernel
theorem dX11_lone_2 : decode cX11_lone 2 = .ok (.iconst 3, 1) := by decide +kernel
theorem dX11_lone_3 : decode cX11_lone 3 = .ok (.invokestatic 112, 3) := by decide +kernel
theorem dX11_lone_6 : decode cX11_lone 6 = .ok (.ifCond .ne 5, 3) := by decide +kernel
theorem dX11_lone_9 : decode cX11_lone 9 = .ok (.iconst (-1), 1) := by decide +kernel
theorem dX11_lone_10 : decode cX11_lone 10 = .ok (.ireturn, 1) := by decide +kernel
theorem dX11_lone_11 : decode cX11_lone 11 = .ok (.aload_n 0, 1) := by decide +kernel
theorem dX11_lone_12 : decode cX11_lone 12 = .ok (.getfield 36, 3) := by decide +kernel
theorem dX11_lone_15 : decode cX11_lone 15 = .ok (.getfield 281, 3) := by decide +kernel
theorem dX11_lone_18 : decode cX11_lone 18 = .ok (.astore_n 2, 1) := by decide +kernel
theorem dX11_lone_19 : decode cX11_lone 19 = .ok (.aload_n 2, 1) := by decide +kernel
theorem dX11_lone_20 : decode cX11_lone 20 = .ok (.aload_n 0, 1) := by decide +kernel
theorem dX11_lone_21 : decode cX11_lone 21 = .ok (.getfield 36, 3) := by decide +kernel
theorem dX11_lone_24 : decode cX11_lone 24 = .ok (.invokevirtual 289, 3) := by decide +kernel
theorem dX11_lone_27 : decode cX11_lone 27 = .ok (.iload_n 1, 1) := by decide +kernel
theorem dX11_lone_28 : decode cX11_lone 28 = .ok (.ifCond .ne 8, 3) := by decide +kernel
theorem dX11_lone_31 : decode cX11_lone 31 = .ok (.aload_n 2, 1) := by decide +kernel
theorem dX11_lone_32 : decode cX11_lone 32 = .ok (.getfield 292, 3) := by decide +kernel
theorem dX11_lone_35 : decode cX11_lone 35 = .ok (.ireturn, 1) := by decide +kernel
theorem dX11_lone_36 : decode cX11_lone 36 = .ok (.aload_n 2, 1) := by decide +kernel
theorem dX11_lone_37 : decode cX11_lone 37 = .ok (.getfield 292, 3) := by decide +kernel
theorem dX11_lone_40 : decode cX11_lone 40 = .ok (.ifCond .ne 6, 3) := by decide +kernel
theorem dX11_lone_43 : decode cX11_lone 43 = .ok (.bipush (-3), 2) := by decide +kernel
theorem dX11_lone_45 : decode cX11_lone 45 = .ok (.ireturn, 1) := by decide +kernel
theorem dX11_lone_46 : decode cX11_lone 46 = .ok (.iload_n 1, 1) := by decide +kernel
theorem dX11_lone_47 : decode cX11_lone 47 = .ok (.iconst 1, 1) := by decide +kernel
theorem dX11_lone_48 : decode cX11_lone 48 = .ok (.if_icmp .ne 8, 3) := by decide +kernel
theorem dX11_lone_51 : decode cX11_lone 51 = .ok (.aload_n 2, 1) := by decide +kernel
theorem dX11_lone_52 : decode cX11_lone 52 = .ok (.getfield 295, 3) := by decide +kernel
theorem dX11_lone_55 : decode cX11_lone 55 = .ok (.ireturn, 1) := by decide +kernel
theorem dX11_lone_56 : decode cX11_lone 56 = .ok (.iload_n 1, 1) := by decide +kernel
theorem dX11_lone_57 : decode cX11_lone 57 = .ok (.iconst 2, 1) := by decide +kernel
theorem dX11_lone_58 : decode cX11_lone 58 = .ok (.if_icmp .ne 10, 3) := by decide +kernel
theorem dX11_lone_61 : decode cX11_lone 61 = .ok (.aload_n 2, 1) := by decide +kernel
theorem dX11_lone_62 : decode cX11_lone 62 = .ok (.getfield 298, 3) := by decide +kernel
theorem dX11_lone_65 : decode cX11_lone 65 = .ok (.goto 7, 3) := by decide +kernel
theorem dX11_lone_68 : decode cX11_lone 68 = .ok (.aload_n 2, 1) := by decide +kernel
theorem dX11_lone_69 : decode cX11_lone 69 = .ok (.getfield 301, 3) := by decide +kernel
theorem dX11_lone_72 : decode cX11_lone 72 = .ok (.ireturn, 1) := by decide +kernel
theorem dX11_liar_0 : decode cX11_liar 0 = .ok (.aload_n 0, 1) := by decide +kernel
theorem dX11_liar_1 : decode cX11_liar 1 = .ok (.getfield 36, 3) := by decide +kernel
theorem dX11_liar_4 : decode cX11_liar 4 = .ok (.getfield 281, 3) := by decide +kernel
theorem dX11_liar_7 : decode cX11_liar 7 = .ok (.astore_n 1, 1) := by decide +kernel
theorem dX11_liar_8 : decode cX11_liar 8 = .ok (.aload_n 1, 1) := by decide +kernel
theorem dX11_liar_9 : decode cX11_liar 9 = .ok (.aload_n 0, 1) := by decide +kernel
theorem dX11_liar_10 : decode cX11_liar 10 = .ok (.getfield 36, 3) := by decide +kernel
theorem dX11_liar_13 : decode cX11_liar 13 = .ok (.invokevirtual 289, 3) := by decide +kernel
theorem dX11_liar_16 : decode cX11_liar 16 = .ok (.aload_n 1, 1) := by decide +kernel
theorem dX11_liar_17 : decode cX11_liar 17 = .ok (.getfield 292, 3) := by decide +kernel
theorem dX11_liar_20 : decode cX11_liar 20 = .ok (.ifCond .le 8, 3) := by decide +kernel
theorem dX11_liar_23 : decode cX11_liar 23 = .ok (.bipush (-3), 2) := by decide +kernel
theorem dX11_liar_25 : decode cX11_liar 25 = .ok (.goto 10, 3) := by decide +kernel
theorem dX11_liar_28 : decode cX11_liar 28 = .ok (.aload_n 1, 1) := by decide +kernel
theorem dX11_liar_29 : decode cX11_liar 29 = .ok (.getfield 304, 3) := by decide +kernel
theorem dX11_liar_32 : decode cX11_liar 32 = .ok (.invokestatic 275, 3) := by decide +kernel
theorem dX11_liar_35 : decode cX11_liar 35 = .ok (.ireturn, 1) := by decide +kernel
theorem dX11_seed_0 : decode cX11_seed 0 = .ok (.aload_n 0, 1) := by decide +kernel
theorem dX11_seed_1 : decode cX11_seed 1 = .ok (.getfield 36, 3) := by decide +kernel
theorem dX11_seed_4 : decode cX11_seed 4 = .ok (.getfield 307, 3) := by decide +kernel
theorem dX11_seed_7 : decode cX11_seed 7 = .ok (.istore_n 2, 1) := by decide +kernel
theorem dX11_seed_8 : decode cX11_seed 8 = .ok (.aload_n 0, 1) := by decide +kernel
theorem dX11_seed_9 : decode cX11_seed 9 = .ok (.getfield 36, 3) := by decide +kernel
theorem dX11_seed_12 : decode cX11_seed 12 = .ok (.iload_n 1, 1) := by decide +kernel
theorem dX11_seed_13 : decode cX11_seed 13 = .ok (.putfield 307, 3) := by decide +kernel
theorem dX11_seed_16 : decode cX11_seed 16 = .ok (.iload_n 2, 1) := by decide +kernel
theorem dX11_seed_17 : decode cX11_seed 17 = .ok (.ireturn, 1) := by decide +kernel
theorem dX11_lot_0 : decode cX11_lot 0 = .ok (.aload_n 0, 1) := by decide +kernel
theorem dX11_lot_1 : decode cX11_lot 1 = .ok (.getfield 36, 3) := by decide +kernel
theorem dX11_lot_4 : decode cX11_lot 4 = .ok (.aload_n 0, 1) := by decide +kernel
theorem dX11_lot_5 : decode cX11_lot 5 = .ok (.getfield 36, 3) := by decide +kernel
theorem dX11_lot_8 : decode cX11_lot 8 = .ok (.getfield 127, 3) := by decide +kernel
theorem dX11_lot_11 : decode cX11_lot 11 = .ok (.invokevirtual 197, 3) := by decide +kernel
theorem dX11_lot_14 : decode cX11_lot 14 = .ok (.ifCond .eq 6, 3) := by decide +kernel
theorem dX11_lot_17 : decode cX11_lot 17 = .ok (.bipush (-4), 2) := by decide +kernel
theorem dX11_lot_19 : decode cX11_lot 19 = .ok (.ireturn, 1) := by decide +kernel
theorem dX11_lot_20 : decode cX11_lot 20 = .ok (.aload_n 0, 1) := by decide +kernel
theorem dX11_lot_21 : decode cX11_lot 21 = .ok (.getfield 36, 3) := by decide +kernel
theorem dX11_lot_24 : decode cX11_lot 24 = .ok (.aload_n 0, 1) := by decide +kernel
theorem dX11_lot_25 : decode cX11_lot 25 = .ok (.getfield 36, 3) := by decide +kernel
theorem dX11_lot_28 : decode cX11_lot 28 = .ok (.getfield 307, 3) := by decide +kernel
theorem dX11_lot_31 : decode cX11_lot 31 = .ok (.invokestatic 310, 3) := by decide +kernel
theorem dX11_lot_34 : decode cX11_lot 34 = .ok (.putfield 307, 3) := by decide +kernel
theorem dX11_lot_37 : decode cX11_lot 37 = .ok (.aload_n 0, 1) := by decide +kernel
theorem dX11_lot_38 : decode cX11_lot 38 = .ok (.aload_n 0, 1) := by decide +kernel
theorem dX11_lot_39 : decode cX11_lot 39 = .ok (.getfield 36, 3) := by decide +kernel
theorem dX11_lot_42 : decode cX11_lot 42 = .ok (.aload_n 0, 1) := by decide +kernel
theorem dX11_lot_43 : decode cX11_lot 43 = .ok (.getfield 36, 3) := by decide +kernel
theorem dX11_lot_46 : decode cX11_lot 46 = .ok (.getfield 307, 3) := by decide +kernel
theorem dX11_lot_49 : decode cX11_lot 49 = .ok (.invokevirtual 313, 3) := by decide +kernel
theorem dX11_lot_52 : decode cX11_lot 52 = .ok (.invokevirtual 219, 3) := by decide +kernel
theorem dX11_lot_55 : decode cX11_lot 55 = .ok (.ireturn, 1) := by decide +kernel
theorem dX11_times_0 : decode cX11_times 0 = .ok (.iload_n 1, 1) := by decide +kernel
theorem dX11_times_1 : decode cX11_times 1 = .ok (.iconst 1, 1) := by decide +kernel
theorem dX11_times_2 : decode cX11_times 2 = .ok (.bipush 40, 2) := by decide +kernel
theorem dX11_times_4 : decode cX11_times 4 = .ok (.invokestatic 112, 3) := by decide +kernel
theorem dX11_times_7 : decode cX11_times 7 = .ok (.ifCond .eq 14, 3) := by decide +kernel
theorem dX11_times_10 : decode cX11_times 10 = .ok (.iload_n 2, 1) := by decide +kernel
theorem dX11_times_11 : decode cX11_times 11 = .ok (.iconst 0, 1) := by decide +kernel
theorem dX11_times_12 : decode cX11_times 12 = .ok (.sipush 999, 3) := by decide +kernel
theorem dX11_times_15 : decode cX11_times 15 = .ok (.invokestatic 112, 3) := by decide +kernel
theorem dX11_times_18 : decode cX11_times 18 = .ok (.ifCond .ne 5, 3) := by decide +kernel
theorem dX11_times_21 : decode cX11_times 21 = .ok (.iconst (-1), 1) := by decide +kernel
theorem dX11_times_22 : decode cX11_times 22 = .ok (.ireturn, 1) := by decide +kernel
theorem dX11_times_23 : decode cX11_times 23 = .ok (.aload_n 0, 1) := by decide +kernel
theorem dX11_times_24 : decode cX11_times 24 = .ok (.getfield 36, 3) := by decide +kernel
theorem dX11_times_27 : decode cX11_times 27 = .ok (.getfield 307, 3) := by decide +kernel
theorem dX11_times_30 : decode cX11_times 30 = .ok (.istore_n 3, 1) := by decide +kernel
theorem dX11_times_31 : decode cX11_times 31 = .ok (.iconst 0, 1) := by decide +kernel
theorem dX11_times_32 : decode cX11_times 32 = .ok (.istore 4, 2) := by decide +kernel
theorem dX11_times_34 : decode cX11_times 34 = .ok (.iconst 0, 1) := by decide +kernel
theorem dX11_times_35 : decode cX11_times 35 = .ok (.istore 5, 2) := by decide +kernel
theorem dX11_times_37 : decode cX11_times 37 = .ok (.iload 5, 2) := by decide +kernel
theorem dX11_times_39 : decode cX11_times 39 = .ok (.iload_n 1, 1) := by decide +kernel
theorem dX11_times_40 : decode cX11_times 40 = .ok (.if_icmp .ge 94, 3) := by decide +kernel
theorem dX11_times_43 : decode cX11_times 43 = .ok (.aload_n 0, 1) := by decide +kernel
theorem dX11_times_44 : decode cX11_times 44 = .ok (.getfield 59, 3) := by decide +kernel
theorem dX11_times_47 : decode cX11_times 47 = .ok (.aload_n 0, 1) := by decide +kernel
theorem dX11_times_48 : decode cX11_times 48 = .ok (.getfield 36, 3) := by decide +kernel
theorem dX11_times_51 : decode cX11_times 51 = .ok (.getfield 127, 3) := by decide +kernel
theorem dX11_times_54 : decode cX11_times 54 = .ok (.invokevirtual 233, 3) := by decide +kernel
theorem dX11_times_57 : decode cX11_times 57 = .ok (.iconst 0, 1) := by decide +kernel
theorem dX11_times_58 : decode cX11_times 58 = .ok (.istore 6, 2) := by decide +kernel
theorem dX11_times_60 : decode cX11_times 60 = .ok (.iconst 0, 1) := by decide +kernel
theorem dX11_times_61 : decode cX11_times 61 = .ok (.istore 7, 2) := by decide +kernel
theorem dX11_times_63 : decode cX11_times 63 = .ok (.iload 7, 2) := by decide +kernel
theorem dX11_times_65 : decode cX11_times 65 = .ok (.bipush 16, 2) := by decide +kernel
theorem dX11_times_67 : decode cX11_times 67 = .ok (.if_icmp .ge 52, 3) := by decide +kernel
theorem dX11_times_70 : decode cX11_times 70 = .ok (.aload_n 0, 1) := by decide +kernel
theorem dX11_times_71 : decode cX11_times 71 = .ok (.getfield 36, 3) := by decide +kernel
theorem dX11_times_74 : decode cX11_times 74 = .ok (.aload_n 0, 1) := by decide +kernel
theorem dX11_times_75 : decode cX11_times 75 = .ok (.getfield 59, 3) := by decide +kernel
theorem dX11_times_78 : decode cX11_times 78 = .ok (.invokevirtual 197, 3) := by decide +kernel
theorem dX11_times_81 : decode cX11_times 81 = .ok (.ifCond .ne 38, 3) := by decide +kernel
theorem dX11_times_84 : decode cX11_times 84 = .ok (.iload_n 3, 1) := by decide +kernel
theorem dX11_times_85 : decode cX11_times 85 = .ok (.invokestatic 310, 3) := by decide +kernel
theorem dX11_times_88 : decode cX11_times 88 = .ok (.istore_n 3, 1) := by decide +kernel
theorem dX11_times_89 : decode cX11_times 89 = .ok (.iload 6, 2) := by decide +kernel
theorem dX11_times_91 : decode cX11_times 91 = .ok (.aload_n 0, 1) := by decide +kernel
theorem dX11_times_92 : decode cX11_times 92 = .ok (.getfield 36, 3) := by decide +kernel
theorem dX11_times_95 : decode cX11_times 95 = .ok (.aload_n 0, 1) := by decide +kernel
theorem dX11_times_96 : decode cX11_times 96 = .ok (.getfield 59, 3) := by decide +kernel
theorem dX11_times_99 : decode cX11_times 99 = .ok (.aload_n 0, 1) := by decide +kernel
theorem dX11_times_100 : decode cX11_times 100 = .ok (.getfield 36, 3) := by decide +kernel
theorem dX11_times_103 : decode cX11_times 103 = .ok (.iload_n 3, 1) := by decide +kernel
theorem dX11_times_104 : decode cX11_times 104 = .ok (.invokevirtual 313, 3) := by decide +kernel
theorem dX11_times_107 : decode cX11_times 107 = .ok (.invokevirtual 241, 3) := by decide +kernel
theorem dX11_times_110 : decode cX11_times 110 = .ok (.iadd, 1) := by decide +kernel
theorem dX11_times_111 : decode cX11_times 111 = .ok (.istore 6, 2) := by decide +kernel
theorem dX11_times_113 : decode cX11_times 113 = .ok (.iinc 7 1, 3) := by decide +kernel
theorem dX11_times_116 : decode cX11_times 116 = .ok (.goto (-53), 3) := by decide +kernel
theorem dX11_times_119 : decode cX11_times 119 = .ok (.iload 6, 2) := by decide +kernel
theorem dX11_times_121 : decode cX11_times 121 = .ok (.iload_n 2, 1) := by decide +kernel
theorem dX11_times_122 : decode cX11_times 122 = .ok (.if_icmp .lt 6, 3) := by decide +kernel
theorem dX11_times_125 : decode cX11_times 125 = .ok (.iinc 4 1, 3) := by decide +kernel
theorem dX11_times_128 : decode cX11_times 128 = .ok (.iinc 5 1, 3) := by decide +kernel
theorem dX11_times_131 : decode cX11_times 131 = .ok (.goto (-94), 3) := by decide +kernel
theorem dX11_times_134 : decode cX11_times 134 = .ok (.iload 4, 2) := by decide +kernel
theorem dX11_times_136 : decode cX11_times 136 = .ok (.ireturn, 1) := by decide +kernel
theorem dX11_prove_0 : decode cX11_prove 0 = .ok (.iload_n 1, 1) := by decide +kernel
theorem dX11_prove_1 : decode cX11_prove 1 = .ok (.iconst 0, 1) := by decide +kernel
theorem dX11_prove_2 : decode cX11_prove 2 = .ok (.iconst 4, 1) := by decide +kernel
theorem dX11_prove_3 : decode cX11_prove 3 = .ok (.invokestatic 112, 3) := by decide +kernel
theorem dX11_prove_6 : decode cX11_prove 6 = .ok (.ifCond .ne 5, 3) := by decide +kernel
theorem dX11_prove_9 : decode cX11_prove 9 = .ok (.iconst (-1), 1) := by decide +kernel
theorem dX11_prove_10 : decode cX11_prove 10 = .ok (.ireturn, 1) := by decide +kernel
theorem dX11_prove_11 : decode cX11_prove 11 = .ok (.aload_n 0, 1) := by decide +kernel
theorem dX11_prove_12 : decode cX11_prove 12 = .ok (.getfield 52, 3) := by decide +kernel
theorem dX11_prove_15 : decode cX11_prove 15 = .ok (.invokevirtual 251, 3) := by decide +kernel
theorem dX11_prove_18 : decode cX11_prove 18 = .ok (.aload_n 0, 1) := by decide +kernel
theorem dX11_prove_19 : decode cX11_prove 19 = .ok (.getfield 52, 3) := by decide +kernel
theorem dX11_prove_22 : decode cX11_prove 22 = .ok (.iconst 0, 1) := by decide +kernel
theorem dX11_prove_23 : decode cX11_prove 23 = .ok (.iload_n 1, 1) := by decide +kernel
theorem dX11_prove_24 : decode cX11_prove 24 = .ok (.invokevirtual 254, 3) := by decide +kernel
theorem dX11_prove_27 : decode cX11_prove 27 = .ok (.pop, 1) := by decide +kernel
theorem dX11_prove_28 : decode cX11_prove 28 = .ok (.aload_n 0, 1) := by decide +kernel
theorem dX11_prove_29 : decode cX11_prove 29 = .ok (.aload_n 0, 1) := by decide +kernel
theorem dX11_prove_30 : decode cX11_prove 30 = .ok (.iload_n 1, 1) := by decide +kernel
theorem dX11_prove_31 : decode cX11_prove 31 = .ok (.invokevirtual 257, 3) := by decide +kernel
theorem dX11_prove_34 : decode cX11_prove 34 = .ok (.putfield 83, 3) := by decide +kernel
theorem dX11_prove_37 : decode cX11_prove 37 = .ok (.aload_n 0, 1) := by decide +kernel
theorem dX11_prove_38 : decode cX11_prove 38 = .ok (.getfield 59, 3) := by decide +kernel
theorem dX11_prove_41 : decode cX11_prove 41 = .ok (.aload_n 0, 1) := by decide +kernel
theorem dX11_prove_42 : decode cX11_prove 42 = .ok (.getfield 36, 3) := by decide +kernel
theorem dX11_prove_45 : decode cX11_prove 45 = .ok (.getfield 127, 3) := by decide +kernel
theorem dX11_prove_48 : decode cX11_prove 48 = .ok (.invokevirtual 233, 3) := by decide +kernel
theorem dX11_prove_51 : decode cX11_prove 51 = .ok (.iconst 0, 1) := by decide +kernel
theorem dX11_prove_52 : decode cX11_prove 52 = .ok (.istore_n 2, 1) := by decide +kernel
theorem dX11_prove_53 : decode cX11_prove 53 = .ok (.iload_n 2, 1) := by decide +kernel
theorem dX11_prove_54 : decode cX11_prove 54 = .ok (.aload_n 0, 1) := by decide +kernel
theorem dX11_prove_55 : decode cX11_prove 55 = .ok (.getfield 83, 3) := by decide +kernel
theorem dX11_prove_58 : decode cX11_prove 58 = .ok (.if_icmp .ge 65, 3) := by decide +kernel
theorem dX11_prove_61 : decode cX11_prove 61 = .ok (.aload_n 0, 1) := by decide +kernel
theorem dX11_prove_62 : decode cX11_prove 62 = .ok (.getfield 52, 3) := by decide +kernel
theorem dX11_prove_65 : decode cX11_prove 65 = .ok (.getfield 260, 3) := by decide +kernel
theorem dX11_prove_68 : decode cX11_prove 68 = .ok (.iconst 0, 1) := by decide +kernel
theorem dX11_prove_69 : decode cX11_prove 69 = .ok (.aaload, 1) := by decide +kernel
theorem dX11_prove_70 : decode cX11_prove 70 = .ok (.iload_n 2, 1) := by decide +kernel
theorem dX11_prove_71 : decode cX11_prove 71 = .ok (.iaload, 1) := by decide +kernel
theorem dX11_prove_72 : decode cX11_prove 72 = .ok (.istore_n 3, 1) := by decide +kernel
theorem dX11_prove_73 : decode cX11_prove 73 = .ok (.aload_n 0, 1) := by decide +kernel
theorem dX11_prove_74 : decode cX11_prove 74 = .ok (.getfield 80, 3) := by decide +kernel
theorem dX11_prove_77 : decode cX11_prove 77 = .ok (.iload_n 2, 1) := by decide +kernel
theorem dX11_prove_78 : decode cX11_prove 78 = .ok (.aaload, 1) := by decide +kernel
theorem dX11_prove_79 : decode cX11_prove 79 = .ok (.iconst 0, 1) := by decide +kernel
theorem dX11_prove_80 : decode cX11_prove 80 = .ok (.iload_n 3, 1) := by decide +kernel
theorem dX11_prove_81 : decode cX11_prove 81 = .ok (.iastore, 1) := by decide +kernel
theorem dX11_prove_82 : decode cX11_prove 82 = .ok (.aload_n 0, 1) := by decide +kernel
theorem dX11_prove_83 : decode cX11_prove 83 = .ok (.getfield 80, 3) := by decide +kernel
theorem dX11_prove_86 : decode cX11_prove 86 = .ok (.iload_n 2, 1) := by decide +kernel
theorem dX11_prove_87 : decode cX11_prove 87 = .ok (.aaload, 1) := by decide +kernel
theorem dX11_prove_88 : decode cX11_prove 88 = .ok (.iconst 1, 1) := by decide +kernel
theorem dX11_prove_89 : decode cX11_prove 89 = .ok (.aload_n 0, 1) := by decide +kernel
theorem dX11_prove_90 : decode cX11_prove 90 = .ok (.getfield 36, 3) := by decide +kernel
theorem dX11_prove_93 : decode cX11_prove 93 = .ok (.aload_n 0, 1) := by decide +kernel
theorem dX11_prove_94 : decode cX11_prove 94 = .ok (.getfield 59, 3) := by decide +kernel
theorem dX11_prove_97 : decode cX11_prove 97 = .ok (.iload_n 3, 1) := by decide +kernel
theorem dX11_prove_98 : decode cX11_prove 98 = .ok (.invokevirtual 241, 3) := by decide +kernel
theorem dX11_prove_101 : decode cX11_prove 101 = .ok (.iastore, 1) := by decide +kernel
theorem dX11_prove_102 : decode cX11_prove 102 = .ok (.aload_n 0, 1) := by decide +kernel
theorem dX11_prove_103 : decode cX11_prove 103 = .ok (.getfield 80, 3) := by decide +kernel
theorem dX11_prove_106 : decode cX11_prove 106 = .ok (.iload_n 2, 1) := by decide +kernel
theorem dX11_prove_107 : decode cX11_prove 107 = .ok (.aaload, 1) := by decide +kernel
theorem dX11_prove_108 : decode cX11_prove 108 = .ok (.iconst 2, 1) := by decide +kernel
theorem dX11_prove_109 : decode cX11_prove 109 = .ok (.aload_n 0, 1) := by decide +kernel
theorem dX11_prove_110 : decode cX11_prove 110 = .ok (.getfield 59, 3) := by decide +kernel
theorem dX11_prove_113 : decode cX11_prove 113 = .ok (.getfield 191, 3) := by decide +kernel
theorem dX11_prove_116 : decode cX11_prove 116 = .ok (.iastore, 1) := by decide +kernel
theorem dX11_prove_117 : decode cX11_prove 117 = .ok (.iinc 2 1, 3) := by decide +kernel
theorem dX11_prove_120 : decode cX11_prove 120 = .ok (.goto (-67), 3) := by decide +kernel
theorem dX11_prove_123 : decode cX11_prove 123 = .ok (.aload_n 0, 1) := by decide +kernel
theorem dX11_prove_124 : decode cX11_prove 124 = .ok (.getfield 83, 3) := by decide +kernel
theorem dX11_prove_127 : decode cX11_prove 127 = .ok (.ireturn, 1) := by decide +kernel
theorem dX11_row_0 : decode cX11_row 0 = .ok (.iload_n 1, 1) := by decide +kernel
theorem dX11_row_1 : decode cX11_row 1 = .ok (.iconst 0, 1) := by decide +kernel
theorem dX11_row_2 : decode cX11_row 2 = .ok (.aload_n 0, 1) := by decide +kernel
theorem dX11_row_3 : decode cX11_row 3 = .ok (.getfield 83, 3) := by decide +kernel
theorem dX11_row_6 : decode cX11_row 6 = .ok (.iconst 1, 1) := by decide +kernel
theorem dX11_row_7 : decode cX11_row 7 = .ok (.isub, 1) := by decide +kernel
theorem dX11_row_8 : decode cX11_row 8 = .ok (.invokestatic 112, 3) := by decide +kernel
theorem dX11_row_11 : decode cX11_row 11 = .ok (.ifCond .eq 12, 3) := by decide +kernel
theorem dX11_row_14 : decode cX11_row 14 = .ok (.iload_n 2, 1) := by decide +kernel
theorem dX11_row_15 : decode cX11_row 15 = .ok (.iconst 0, 1) := by decide +kernel
theorem dX11_row_16 : decode cX11_row 16 = .ok (.iconst 2, 1) := by decide +kernel
theorem dX11_row_17 : decode cX11_row 17 = .ok (.invokestatic 112, 3) := by decide +kernel
theorem dX11_row_20 : decode cX11_row 20 = .ok (.ifCond .ne 6, 3) := by decide +kernel
theorem dX11_row_23 : decode cX11_row 23 = .ok (.bipush (-9), 2) := by decide +kernel
theorem dX11_row_25 : decode cX11_row 25 = .ok (.ireturn, 1) := by decide +kernel
theorem dX11_row_26 : decode cX11_row 26 = .ok (.aload_n 0, 1) := by decide +kernel
theorem dX11_row_27 : decode cX11_row 27 = .ok (.getfield 80, 3) := by decide +kernel
theorem dX11_row_30 : decode cX11_row 30 = .ok (.iload_n 1, 1) := by decide +kernel
theorem dX11_row_31 : decode cX11_row 31 = .ok (.aaload, 1) := by decide +kernel
theorem dX11_row_32 : decode cX11_row 32 = .ok (.iload_n 2, 1) := by decide +kernel
theorem dX11_row_33 : decode cX11_row 33 = .ok (.iaload, 1) := by decide +kernel
theorem dX11_row_34 : decode cX11_row 34 = .ok (.ireturn, 1) := by decide +kernel
theorem dX11_alterRow_0 : decode cX11_alterRow 0 = .ok (.iload_n 1, 1) := by decide +kernel
theorem dX11_alterRow_1 : decode cX11_alterRow 1 = .ok (.iconst 0, 1) := by decide +kernel
theorem dX11_alterRow_2 : decode cX11_alterRow 2 = .ok (.aload_n 0, 1) := by decide +kernel
theorem dX11_alterRow_3 : decode cX11_alterRow 3 = .ok (.getfield 83, 3) := by decide +kernel
theorem dX11_alterRow_6 : decode cX11_alterRow 6 = .ok (.iconst 1, 1) := by decide +kernel
theorem dX11_alterRow_7 : decode cX11_alterRow 7 = .ok (.isub, 1) := by decide +kernel
theorem dX11_alterRow_8 : decode cX11_alterRow 8 = .ok (.invokestatic 112, 3) := by decide +kernel
theorem dX11_alterRow_11 : decode cX11_alterRow 11 = .ok (.ifCond .eq 12, 3) := by decide +kernel
theorem dX11_alterRow_14 : decode cX11_alterRow 14 = .ok (.iload_n 2, 1) := by decide +kernel
theorem dX11_alterRow_15 : decode cX11_alterRow 15 = .ok (.iconst 0, 1) := by decide +kernel
theorem dX11_alterRow_16 : decode cX11_alterRow 16 = .ok (.iconst 2, 1) := by decide +kernel
theorem dX11_alterRow_17 : decode cX11_alterRow 17 = .ok (.invokestatic 112, 3) := by decide +kernel
theorem dX11_alterRow_20 : decode cX11_alterRow 20 = .ok (.ifCond .ne 6, 3) := by decide +kernel
theorem dX11_alterRow_23 : decode cX11_alterRow 23 = .ok (.bipush (-9), 2) := by decide +kernel
theorem dX11_alterRow_25 : decode cX11_alterRow 25 = .ok (.ireturn, 1) := by decide +kernel
theorem dX11_alterRow_26 : decode cX11_alterRow 26 = .ok (.aload_n 0, 1) := by decide +kernel
theorem dX11_alterRow_27 : decode cX11_alterRow 27 = .ok (.getfield 80, 3) := by decide +kernel
theorem dX11_alterRow_30 : decode cX11_alterRow 30 = .ok (.iload_n 1, 1) := by decide +kernel
theorem dX11_alterRow_31 : decode cX11_alterRow 31 = .ok (.aaload, 1) := by decide +kernel
theorem dX11_alterRow_32 : decode cX11_alterRow 32 = .ok (.iload_n 2, 1) := by decide +kernel
theorem dX11_alterRow_33 : decode cX11_alterRow 33 = .ok (.iload_n 3, 1) := by decide +kernel
theorem dX11_alterRow_34 : decode cX11_alterRow 34 = .ok (.invokestatic 162, 3) := by decide +kernel
theorem dX11_alterRow_37 : decode cX11_alterRow 37 = .ok (.ireturn, 1) := by decide +kernel
theorem dX11_judge_0 : decode cX11_judge 0 = .ok (.aload_n 0, 1) := by decide +kernel
theorem dX11_judge_1 : decode cX11_judge 1 = .ok (.getfield 59, 3) := by decide +kernel
theorem dX11_judge_4 : decode cX11_judge 4 = .ok (.aload_n 0, 1) := by decide +kernel
theorem dX11_judge_5 : decode cX11_judge 5 = .ok (.getfield 36, 3) := by decide +kernel
theorem dX11_judge_8 : decode cX11_judge 8 = .ok (.getfield 127, 3) := by decide +kernel
theorem dX11_judge_11 : decode cX11_judge 11 = .ok (.invokevirtual 233, 3) := by decide +kernel
theorem dX11_judge_14 : decode cX11_judge 14 = .ok (.iconst 0, 1) := by decide +kernel
theorem dX11_judge_15 : decode cX11_judge 15 = .ok (.istore_n 1, 1) := by decide +kernel
theorem dX11_judge_16 : decode cX11_judge 16 = .ok (.iload_n 1, 1) := by decide +kernel
theorem dX11_judge_17 : decode cX11_judge 17 = .ok (.aload_n 0, 1) := by decide +kernel
theorem dX11_judge_18 : decode cX11_judge 18 = .ok (.getfield 83, 3) := by decide +kernel
theorem dX11_judge_21 : decode cX11_judge 21 = .ok (.if_icmp .ge 86, 3) := by decide +kernel
theorem dX11_judge_24 : decode cX11_judge 24 = .ok (.aload_n 0, 1) := by decide +kernel
theorem dX11_judge_25 : decode cX11_judge 25 = .ok (.getfield 80, 3) := by decide +kernel
theorem dX11_judge_28 : decode cX11_judge 28 = .ok (.iload_n 1, 1) := by decide +kernel
theorem dX11_judge_29 : decode cX11_judge 29 = .ok (.aaload, 1) := by decide +kernel
theorem dX11_judge_30 : decode cX11_judge 30 = .ok (.astore_n 2, 1) := by decide +kernel
theorem dX11_judge_31 : decode cX11_judge 31 = .ok (.aload_n 0, 1) := by decide +kernel
theorem dX11_judge_32 : decode cX11_judge 32 = .ok (.getfield 36, 3) := by decide +kernel
theorem dX11_judge_35 : decode cX11_judge 35 = .ok (.aload_n 0, 1) := by decide +kernel
theorem dX11_judge_36 : decode cX11_judge 36 = .ok (.getfield 59, 3) := by decide +kernel
theorem dX11_judge_39 : decode cX11_judge 39 = .ok (.invokevirtual 197, 3) := by decide +kernel
theorem dX11_judge_42 : decode cX11_judge 42 = .ok (.ifCond .ne 16, 3) := by decide +kernel
theorem dX11_judge_45 : decode cX11_judge 45 = .ok (.aload_n 0, 1) := by decide +kernel
theorem dX11_judge_46 : decode cX11_judge 46 = .ok (.getfield 36, 3) := by decide +kernel
theorem dX11_judge_49 : decode cX11_judge 49 = .ok (.aload_n 2, 1) := by decide +kernel
theorem dX11_judge_50 : decode cX11_judge 50 = .ok (.iconst 0, 1) := by decide +kernel
theorem dX11_judge_51 : decode cX11_judge 51 = .ok (.iaload, 1) := by decide +kernel
theorem dX11_judge_52 : decode cX11_judge 52 = .ok (.invokevirtual 316, 3) := by decide +kernel
theorem dX11_judge_55 : decode cX11_judge 55 = .ok (.ifCond .ne 7, 3) := by decide +kernel
theorem dX11_judge_58 : decode cX11_judge 58 = .ok (.iload_n 1, 1) := by decide +kernel
theorem dX11_judge_59 : decode cX11_judge 59 = .ok (.iconst 1, 1) := by decide +kernel
theorem dX11_judge_60 : decode cX11_judge 60 = .ok (.iadd, 1) := by decide +kernel
theorem dX11_judge_61 : decode cX11_judge 61 = .ok (.ireturn, 1) := by decide +kernel
theorem dX11_judge_62 : decode cX11_judge 62 = .ok (.aload_n 0, 1) := by decide +kernel
theorem dX11_judge_63 : decode cX11_judge 63 = .ok (.getfield 36, 3) := by decide +kernel
theorem dX11_judge_66 : decode cX11_judge 66 = .ok (.aload_n 0, 1) := by decide +kernel
theorem dX11_judge_67 : decode cX11_judge 67 = .ok (.getfield 59, 3) := by decide +kernel
theorem dX11_judge_70 : decode cX11_judge 70 = .ok (.aload_n 2, 1) := by decide +kernel
theorem dX11_judge_71 : decode cX11_judge 71 = .ok (.iconst 0, 1) := by decide +kernel
theorem dX11_judge_72 : decode cX11_judge 72 = .ok (.iaload, 1) := by decide +kernel
theorem dX11_judge_73 : decode cX11_judge 73 = .ok (.invokevirtual 241, 3) := by decide +kernel
theorem dX11_judge_76 : decode cX11_judge 76 = .ok (.istore_n 3, 1) := by decide +kernel
theorem dX11_judge_77 : decode cX11_judge 77 = .ok (.iload_n 3, 1) := by decide +kernel
theorem dX11_judge_78 : decode cX11_judge 78 = .ok (.aload_n 2, 1) := by decide +kernel
theorem dX11_judge_79 : decode cX11_judge 79 = .ok (.iconst 1, 1) := by decide +kernel
theorem dX11_judge_80 : decode cX11_judge 80 = .ok (.iaload, 1) := by decide +kernel
theorem dX11_judge_81 : decode cX11_judge 81 = .ok (.if_icmp .ne 16, 3) := by decide +kernel
theorem dX11_judge_84 : decode cX11_judge 84 = .ok (.aload_n 0, 1) := by decide +kernel
theorem dX11_judge_85 : decode cX11_judge 85 = .ok (.getfield 59, 3) := by decide +kernel
theorem dX11_judge_88 : decode cX11_judge 88 = .ok (.getfield 191, 3) := by decide +kernel
theorem dX11_judge_91 : decode cX11_judge 91 = .ok (.aload_n 2, 1) := by decide +kernel
theorem dX11_judge_92 : decode cX11_judge 92 = .ok (.iconst 2, 1) := by decide +kernel
theorem dX11_judge_93 : decode cX11_judge 93 = .ok (.iaload, 1) := by decide +kernel
theorem dX11_judge_94 : decode cX11_judge 94 = .ok (.if_icmp .eq 7, 3) := by decide +kernel
theorem dX11_judge_97 : decode cX11_judge 97 = .ok (.iload_n 1, 1) := by decide +kernel
theorem dX11_judge_98 : decode cX11_judge 98 = .ok (.iconst 1, 1) := by decide +kernel
theorem dX11_judge_99 : decode cX11_judge 99 = .ok (.iadd, 1) := by decide +kernel
theorem dX11_judge_100 : decode cX11_judge 100 = .ok (.ireturn, 1) := by decide +kernel
theorem dX11_judge_101 : decode cX11_judge 101 = .ok (.iinc 1 1, 3) := by decide +kernel
theorem dX11_judge_104 : decode cX11_judge 104 = .ok (.goto (-88), 3) := by decide +kernel
theorem dX11_judge_107 : decode cX11_judge 107 = .ok (.iconst 0, 1) := by decide +kernel
theorem dX11_judge_108 : decode cX11_judge 108 = .ok (.ireturn, 1) := by decide +kernel
theorem dX11_sheet_0 : decode cX11_sheet 0 = .ok (.iload_n 1, 1) := by decide +kernel
theorem dX11_sheet_1 : decode cX11_sheet 1 = .ok (.iconst 0, 1) := by decide +kernel
theorem dX11_sheet_2 : decode cX11_sheet 2 = .ok (.iconst 3, 1) := by decide +kernel
theorem dX11_sheet_3 : decode cX11_sheet 3 = .ok (.invokestatic 112, 3) := by decide +kernel
theorem dX11_sheet_6 : decode cX11_sheet 6 = .ok (.ifCond .eq 12, 3) := by decide +kernel
theorem dX11_sheet_9 : decode cX11_sheet 9 = .ok (.iload_n 2, 1) := by decide +kernel
theorem dX11_sheet_10 : decode cX11_sheet 10 = .ok (.iconst (-1), 1) := by decide +kernel
theorem dX11_sheet_11 : decode cX11_sheet 11 = .ok (.iconst 4, 1) := by decide +kernel
theorem dX11_sheet_12 : decode cX11_sheet 12 = .ok (.invokestatic 112, 3) := by decide +kernel
theorem dX11_sheet_15 : decode cX11_sheet 15 = .ok (.ifCond .ne 5, 3) := by decide +kernel
theorem dX11_sheet_18 : decode cX11_sheet 18 = .ok (.iconst (-1), 1) := by decide +kernel
theorem dX11_sheet_19 : decode cX11_sheet 19 = .ok (.ireturn, 1) := by decide +kernel
theorem dX11_sheet_20 : decode cX11_sheet 20 = .ok (.iload_n 2, 1) := by decide +kernel
theorem dX11_sheet_21 : decode cX11_sheet 21 = .ok (.iconst (-1), 1) := by decide +kernel
theorem dX11_sheet_22 : decode cX11_sheet 22 = .ok (.if_icmp .eq 18, 3) := by decide +kernel
theorem dX11_sheet_25 : decode cX11_sheet 25 = .ok (.iload_n 3, 1) := by decide +kernel
theorem dX11_sheet_26 : decode cX11_sheet 26 = .ok (.bipush 40, 2) := by decide +kernel
theorem dX11_sheet_28 : decode cX11_sheet 28 = .ok (.if_icmp .le 5, 3) := by decide +kernel
theorem dX11_sheet_31 : decode cX11_sheet 31 = .ok (.iconst (-1), 1) := by decide +kernel
theorem dX11_sheet_32 : decode cX11_sheet 32 = .ok (.ireturn, 1) := by decide +kernel
theorem dX11_sheet_33 : decode cX11_sheet 33 = .ok (.iload_n 3, 1) := by decide +kernel
theorem dX11_sheet_34 : decode cX11_sheet 34 = .ok (.ifCond .ge 6, 3) := by decide +kernel
theorem dX11_sheet_37 : decode cX11_sheet 37 = .ok (.bipush (-14), 2) := by decide +kernel
theorem dX11_sheet_39 : decode cX11_sheet 39 = .ok (.ireturn, 1) := by decide +kernel
theorem dX11_sheet_40 : decode cX11_sheet 40 = .ok (.aload_n 0, 1) := by decide +kernel
theorem dX11_sheet_41 : decode cX11_sheet 41 = .ok (.getfield 86, 3) := by decide +kernel
theorem dX11_sheet_44 : decode cX11_sheet 44 = .ok (.iload_n 1, 1) := by decide +kernel
theorem dX11_sheet_45 : decode cX11_sheet 45 = .ok (.iload_n 2, 1) := by decide +kernel
theorem dX11_sheet_46 : decode cX11_sheet 46 = .ok (.iastore, 1) := by decide +kernel
theorem dX11_sheet_47 : decode cX11_sheet 47 = .ok (.aload_n 0, 1) := by decide +kernel
theorem dX11_sheet_48 : decode cX11_sheet 48 = .ok (.getfield 90, 3) := by decide +kernel
theorem dX11_sheet_51 : decode cX11_sheet 51 = .ok (.iload_n 1, 1) := by decide +kernel
theorem dX11_sheet_52 : decode cX11_sheet 52 = .ok (.iload_n 2, 1) := by decide +kernel
theorem dX11_sheet_53 : decode cX11_sheet 53 = .ok (.iconst (-1), 1) := by decide +kernel
theorem dX11_sheet_54 : decode cX11_sheet 54 = .ok (.if_icmp .ne 7, 3) := by decide +kernel
theorem dX11_sheet_57 : decode cX11_sheet 57 = .ok (.iconst 0, 1) := by decide +kernel
theorem dX11_sheet_58 : decode cX11_sheet 58 = .ok (.goto 4, 3) := by decide +kernel
theorem dX11_sheet_61 : decode cX11_sheet 61 = .ok (.iload_n 3, 1) := by decide +kernel
theorem dX11_sheet_62 : decode cX11_sheet 62 = .ok (.iastore, 1) := by decide +kernel
theorem dX11_sheet_63 : decode cX11_sheet 63 = .ok (.aload_n 0, 1) := by decide +kernel
theorem dX11_sheet_64 : decode cX11_sheet 64 = .ok (.getfield 93, 3) := by decide +kernel
theorem dX11_sheet_67 : decode cX11_sheet 67 = .ok (.iload_n 1, 1) := by decide +kernel
theorem dX11_sheet_68 : decode cX11_sheet 68 = .ok (.aaload, 1) := by decide +kernel
theorem dX11_sheet_69 : decode cX11_sheet 69 = .ok (.iconst 0, 1) := by decide +kernel
theorem dX11_sheet_70 : decode cX11_sheet 70 = .ok (.invokestatic 106, 3) := by decide +kernel
theorem dX11_sheet_73 : decode cX11_sheet 73 = .ok (.iconst 1, 1) := by decide +kernel
theorem dX11_sheet_74 : decode cX11_sheet 74 = .ok (.ireturn, 1) := by decide +kernel
theorem dX11_write_0 : decode cX11_write 0 = .ok (.iload_n 1, 1) := by decide +kernel
theorem dX11_write_1 : decode cX11_write 1 = .ok (.iconst 0, 1) := by decide +kernel
theorem dX11_write_2 : decode cX11_write 2 = .ok (.iconst 3, 1) := by decide +kernel
theorem dX11_write_3 : decode cX11_write 3 = .ok (.invokestatic 112, 3) := by decide +kernel
theorem dX11_write_6 : decode cX11_write 6 = .ok (.ifCond .ne 5, 3) := by decide +kernel
theorem dX11_write_9 : decode cX11_write 9 = .ok (.iconst (-1), 1) := by decide +kernel
theorem dX11_write_10 : decode cX11_write 10 = .ok (.ireturn, 1) := by decide +kernel
theorem dX11_write_11 : decode cX11_write 11 = .ok (.aload_n 0, 1) := by decide +kernel
theorem dX11_write_12 : decode cX11_write 12 = .ok (.getfield 86, 3) := by decide +kernel
theorem dX11_write_15 : decode cX11_write 15 = .ok (.iload_n 1, 1) := by decide +kernel
theorem dX11_write_16 : decode cX11_write 16 = .ok (.iaload, 1) := by decide +kernel
theorem dX11_write_17 : decode cX11_write 17 = .ok (.iconst (-1), 1) := by decide +kernel
theorem dX11_write_18 : decode cX11_write 18 = .ok (.if_icmp .ne 6, 3) := by decide +kernel
theorem dX11_write_21 : decode cX11_write 21 = .ok (.bipush (-11), 2) := by decide +kernel
theorem dX11_write_23 : decode cX11_write 23 = .ok (.ireturn, 1) := by decide +kernel
theorem dX11_write_24 : decode cX11_write 24 = .ok (.iload_n 2, 1) := by decide +kernel
theorem dX11_write_25 : decode cX11_write 25 = .ok (.iconst 0, 1) := by decide +kernel
theorem dX11_write_26 : decode cX11_write 26 = .ok (.aload_n 0, 1) := by decide +kernel
theorem dX11_write_27 : decode cX11_write 27 = .ok (.getfield 90, 3) := by decide +kernel
theorem dX11_write_30 : decode cX11_write 30 = .ok (.iload_n 1, 1) := by decide +kernel
theorem dX11_write_31 : decode cX11_write 31 = .ok (.iaload, 1) := by decide +kernel
theorem dX11_write_32 : decode cX11_write 32 = .ok (.iconst 1, 1) := by decide +kernel
theorem dX11_write_33 : decode cX11_write 33 = .ok (.isub, 1) := by decide +kernel
theorem dX11_write_34 : decode cX11_write 34 = .ok (.invokestatic 112, 3) := by decide +kernel
theorem dX11_write_37 : decode cX11_write 37 = .ok (.ifCond .ne 6, 3) := by decide +kernel
theorem dX11_write_40 : decode cX11_write 40 = .ok (.bipush (-12), 2) := by decide +kernel
theorem dX11_write_42 : decode cX11_write 42 = .ok (.ireturn, 1) := by decide +kernel
theorem dX11_write_43 : decode cX11_write 43 = .ok (.aload_n 0, 1) := by decide +kernel
theorem dX11_write_44 : decode cX11_write 44 = .ok (.getfield 93, 3) := by decide +kernel
theorem dX11_write_47 : decode cX11_write 47 = .ok (.iload_n 1, 1) := by decide +kernel
theorem dX11_write_48 : decode cX11_write 48 = .ok (.aaload, 1) := by decide +kernel
theorem dX11_write_49 : decode cX11_write 49 = .ok (.iload_n 2, 1) := by decide +kernel
theorem dX11_write_50 : decode cX11_write 50 = .ok (.iload_n 3, 1) := by decide +kernel
theorem dX11_write_51 : decode cX11_write 51 = .ok (.aload_n 0, 1) := by decide +kernel
theorem dX11_write_52 : decode cX11_write 52 = .ok (.getfield 86, 3) := by decide +kernel
theorem dX11_write_55 : decode cX11_write 55 = .ok (.iload_n 1, 1) := by decide +kernel
theorem dX11_write_56 : decode cX11_write 56 = .ok (.iaload, 1) := by decide +kernel
theorem dX11_write_57 : decode cX11_write 57 = .ok (.invokestatic 319, 3) := by decide +kernel
theorem dX11_write_60 : decode cX11_write 60 = .ok (.iastore, 1) := by decide +kernel
theorem dX11_write_61 : decode cX11_write 61 = .ok (.iconst 1, 1) := by decide +kernel
theorem dX11_write_62 : decode cX11_write 62 = .ok (.ireturn, 1) := by decide +kernel
theorem dX11_item_0 : decode cX11_item 0 = .ok (.iload_n 1, 1) := by decide +kernel
theorem dX11_item_1 : decode cX11_item 1 = .ok (.iconst 0, 1) := by decide +kernel
theorem dX11_item_2 : decode cX11_item 2 = .ok (.iconst 3, 1) := by decide +kernel
theorem dX11_item_3 : decode cX11_item 3 = .ok (.invokestatic 112, 3) := by decide +kernel
theorem dX11_item_6 : decode cX11_item 6 = .ok (.ifCond .eq 12, 3) := by decide +kernel
theorem dX11_item_9 : decode cX11_item 9 = .ok (.iload_n 2, 1) := by decide +kernel
theorem dX11_item_10 : decode cX11_item 10 = .ok (.iconst 0, 1) := by decide +kernel
theorem dX11_item_11 : decode cX11_item 11 = .ok (.iconst 4, 1) := by decide +kernel
theorem dX11_item_12 : decode cX11_item 12 = .ok (.invokestatic 112, 3) := by decide +kernel
theorem dX11_item_15 : decode cX11_item 15 = .ok (.ifCond .ne 5, 3) := by decide +kernel
theorem dX11_item_18 : decode cX11_item 18 = .ok (.iconst (-1), 1) := by decide +kernel
theorem dX11_item_19 : decode cX11_item 19 = .ok (.ireturn, 1) := by decide +kernel
theorem dX11_item_20 : decode cX11_item 20 = .ok (.aload_n 0, 1) := by decide +kernel
theorem dX11_item_21 : decode cX11_item 21 = .ok (.getfield 86, 3) := by decide +kernel
theorem dX11_item_24 : decode cX11_item 24 = .ok (.iload_n 1, 1) := by decide +kernel
theorem dX11_item_25 : decode cX11_item 25 = .ok (.iaload, 1) := by decide +kernel
theorem dX11_item_26 : decode cX11_item 26 = .ok (.iconst (-1), 1) := by decide +kernel
theorem dX11_item_27 : decode cX11_item 27 = .ok (.if_icmp .ne 6, 3) := by decide +kernel
theorem dX11_item_30 : decode cX11_item 30 = .ok (.bipush (-11), 2) := by decide +kernel
theorem dX11_item_32 : decode cX11_item 32 = .ok (.ireturn, 1) := by decide +kernel
theorem dX11_item_33 : decode cX11_item 33 = .ok (.aload_n 0, 1) := by decide +kernel
theorem dX11_item_34 : decode cX11_item 34 = .ok (.getfield 86, 3) := by decide +kernel
theorem dX11_item_37 : decode cX11_item 37 = .ok (.iload_n 1, 1) := by decide +kernel
theorem dX11_item_38 : decode cX11_item 38 = .ok (.iaload, 1) := by decide +kernel
theorem dX11_item_39 : decode cX11_item 39 = .ok (.iload_n 2, 1) := by decide +kernel
theorem dX11_item_40 : decode cX11_item 40 = .ok (.if_icmp .eq 6, 3) := by decide +kernel
theorem dX11_item_43 : decode cX11_item 43 = .ok (.bipush (-13), 2) := by decide +kernel
theorem dX11_item_45 : decode cX11_item 45 = .ok (.ireturn, 1) := by decide +kernel
theorem dX11_item_46 : decode cX11_item 46 = .ok (.iload_n 3, 1) := by decide +kernel
theorem dX11_item_47 : decode cX11_item 47 = .ok (.iconst 0, 1) := by decide +kernel
theorem dX11_item_48 : decode cX11_item 48 = .ok (.aload_n 0, 1) := by decide +kernel
theorem dX11_item_49 : decode cX11_item 49 = .ok (.getfield 90, 3) := by decide +kernel
theorem dX11_item_52 : decode cX11_item 52 = .ok (.iload_n 1, 1) := by decide +kernel
theorem dX11_item_53 : decode cX11_item 53 = .ok (.iaload, 1) := by decide +kernel
theorem dX11_item_54 : decode cX11_item 54 = .ok (.iconst 1, 1) := by decide +kernel
theorem dX11_item_55 : decode cX11_item 55 = .ok (.isub, 1) := by decide +kernel
theorem dX11_item_56 : decode cX11_item 56 = .ok (.invokestatic 112, 3) := by decide +kernel
theorem dX11_item_59 : decode cX11_item 59 = .ok (.ifCond .ne 6, 3) := by decide +kernel
theorem dX11_item_62 : decode cX11_item 62 = .ok (.bipush (-12), 2) := by decide +kernel
theorem dX11_item_64 : decode cX11_item 64 = .ok (.ireturn, 1) := by decide +kernel
theorem dX11_item_65 : decode cX11_item 65 = .ok (.aload_n 0, 1) := by decide +kernel
theorem dX11_item_66 : decode cX11_item 66 = .ok (.getfield 93, 3) := by decide +kernel
theorem dX11_item_69 : decode cX11_item 69 = .ok (.iload_n 1, 1) := by decide +kernel
theorem dX11_item_70 : decode cX11_item 70 = .ok (.aaload, 1) := by decide +kernel
theorem dX11_item_71 : decode cX11_item 71 = .ok (.iload_n 3, 1) := by decide +kernel
theorem dX11_item_72 : decode cX11_item 72 = .ok (.iaload, 1) := by decide +kernel
theorem dX11_item_73 : decode cX11_item 73 = .ok (.ireturn, 1) := by decide +kernel
theorem dX11_goAll_0 : decode cX11_goAll 0 = .ok (.aload_n 0, 1) := by decide +kernel
theorem dX11_goAll_1 : decode cX11_goAll 1 = .ok (.iload_n 1, 1) := by decide +kernel
theorem dX11_goAll_2 : decode cX11_goAll 2 = .ok (.iload_n 3, 1) := by decide +kernel
theorem dX11_goAll_3 : decode cX11_goAll 3 = .ok (.invokevirtual 322, 3) := by decide +kernel
theorem dX11_goAll_6 : decode cX11_goAll 6 = .ok (.istore 4, 2) := by decide +kernel
theorem dX11_goAll_8 : decode cX11_goAll 8 = .ok (.iload 4, 2) := by decide +kernel
theorem dX11_goAll_10 : decode cX11_goAll 10 = .ok (.ifCond .ge 6, 3) := by decide +kernel
theorem dX11_goAll_13 : decode cX11_goAll 13 = .ok (.iload 4, 2) := by decide +kernel
theorem dX11_goAll_15 : decode cX11_goAll 15 = .ok (.ireturn, 1) := by decide +kernel
theorem dX11_goAll_16 : decode cX11_goAll 16 = .ok (.iconst 0, 1) := by decide +kernel
theorem dX11_goAll_17 : decode cX11_goAll 17 = .ok (.istore 5, 2) := by decide +kernel
theorem dX11_goAll_19 : decode cX11_goAll 19 = .ok (.iconst 0, 1) := by decide +kernel
theorem dX11_goAll_20 : decode cX11_goAll 20 = .ok (.istore 6, 2) := by decide +kernel
theorem dX11_goAll_22 : decode cX11_goAll 22 = .ok (.iload 6, 2) := by decide +kernel
theorem dX11_goAll_24 : decode cX11_goAll 24 = .ok (.iload_n 3, 1) := by decide +kernel
theorem dX11_goAll_25 : decode cX11_goAll 25 = .ok (.if_icmp .ge 84, 3) := by decide +kernel
theorem dX11_goAll_28 : decode cX11_goAll 28 = .ok (.iload_n 2, 1) := by decide +kernel
theorem dX11_goAll_29 : decode cX11_goAll 29 = .ok (.iconst 0, 1) := by decide +kernel
theorem dX11_goAll_30 : decode cX11_goAll 30 = .ok (.aload_n 0, 1) := by decide +kernel
theorem dX11_goAll_31 : decode cX11_goAll 31 = .ok (.getfield 90, 3) := by decide +kernel
theorem dX11_goAll_34 : decode cX11_goAll 34 = .ok (.iload_n 1, 1) := by decide +kernel
theorem dX11_goAll_35 : decode cX11_goAll 35 = .ok (.iaload, 1) := by decide +kernel
theorem dX11_goAll_36 : decode cX11_goAll 36 = .ok (.iconst 1, 1) := by decide +kernel
theorem dX11_goAll_37 : decode cX11_goAll 37 = .ok (.isub, 1) := by decide +kernel
theorem dX11_goAll_38 : decode cX11_goAll 38 = .ok (.iload 6, 2) := by decide +kernel
theorem dX11_goAll_40 : decode cX11_goAll 40 = .ok (.isub, 1) := by decide +kernel
theorem dX11_goAll_41 : decode cX11_goAll 41 = .ok (.invokestatic 112, 3) := by decide +kernel
theorem dX11_goAll_44 : decode cX11_goAll 44 = .ok (.ifCond .ne 6, 3) := by decide +kernel
theorem dX11_goAll_47 : decode cX11_goAll 47 = .ok (.bipush (-12), 2) := by decide +kernel
theorem dX11_goAll_49 : decode cX11_goAll 49 = .ok (.ireturn, 1) := by decide +kernel
theorem dX11_goAll_50 : decode cX11_goAll 50 = .ok (.aload_n 0, 1) := by decide +kernel
theorem dX11_goAll_51 : decode cX11_goAll 51 = .ok (.getfield 93, 3) := by decide +kernel
theorem dX11_goAll_54 : decode cX11_goAll 54 = .ok (.iload_n 1, 1) := by decide +kernel
theorem dX11_goAll_55 : decode cX11_goAll 55 = .ok (.aaload, 1) := by decide +kernel
theorem dX11_goAll_56 : decode cX11_goAll 56 = .ok (.iload_n 2, 1) := by decide +kernel
theorem dX11_goAll_57 : decode cX11_goAll 57 = .ok (.iload 6, 2) := by decide +kernel
theorem dX11_goAll_59 : decode cX11_goAll 59 = .ok (.iadd, 1) := by decide +kernel
theorem dX11_goAll_60 : decode cX11_goAll 60 = .ok (.iaload, 1) := by decide +kernel
theorem dX11_goAll_61 : decode cX11_goAll 61 = .ok (.istore 7, 2) := by decide +kernel
theorem dX11_goAll_63 : decode cX11_goAll 63 = .ok (.aload_n 0, 1) := by decide +kernel
theorem dX11_goAll_64 : decode cX11_goAll 64 = .ok (.getfield 36, 3) := by decide +kernel
theorem dX11_goAll_67 : decode cX11_goAll 67 = .ok (.iload 7, 2) := by decide +kernel
theorem dX11_goAll_69 : decode cX11_goAll 69 = .ok (.invokevirtual 316, 3) := by decide +kernel
theorem dX11_goAll_72 : decode cX11_goAll 72 = .ok (.ifCond .eq 31, 3) := by decide +kernel
theorem dX11_goAll_75 : decode cX11_goAll 75 = .ok (.aload_n 0, 1) := by decide +kernel
theorem dX11_goAll_76 : decode cX11_goAll 76 = .ok (.getfield 36, 3) := by decide +kernel
theorem dX11_goAll_79 : decode cX11_goAll 79 = .ok (.aload_n 0, 1) := by decide +kernel
theorem dX11_goAll_80 : decode cX11_goAll 80 = .ok (.getfield 36, 3) := by decide +kernel
theorem dX11_goAll_83 : decode cX11_goAll 83 = .ok (.getfield 127, 3) := by decide +kernel
theorem dX11_goAll_86 : decode cX11_goAll 86 = .ok (.invokevirtual 197, 3) := by decide +kernel
theorem dX11_goAll_89 : decode cX11_goAll 89 = .ok (.ifCond .ne 14, 3) := by decide +kernel
theorem dX11_goAll_92 : decode cX11_goAll 92 = .ok (.iload 5, 2) := by decide +kernel
theorem dX11_goAll_94 : decode cX11_goAll 94 = .ok (.aload_n 0, 1) := by decide +kernel
theorem dX11_goAll_95 : decode cX11_goAll 95 = .ok (.iload 7, 2) := by decide +kernel
theorem dX11_goAll_97 : decode cX11_goAll 97 = .ok (.invokevirtual 219, 3) := by decide +kernel
theorem dX11_goAll_100 : decode cX11_goAll 100 = .ok (.iadd, 1) := by decide +kernel
theorem dX11_goAll_101 : decode cX11_goAll 101 = .ok (.istore 5, 2) := by decide +kernel
theorem dX11_goAll_103 : decode cX11_goAll 103 = .ok (.iinc 6 1, 3) := by decide +kernel
theorem dX11_goAll_106 : decode cX11_goAll 106 = .ok (.goto (-84), 3) := by decide +kernel
theorem dX11_goAll_109 : decode cX11_goAll 109 = .ok (.iload 5, 2) := by decide +kernel
theorem dX11_goAll_111 : decode cX11_goAll 111 = .ok (.ireturn, 1) := by decide +kernel
theorem dX11_wouldBe_0 : decode cX11_wouldBe 0 = .ok (.aload_n 0, 1) := by decide +kernel
theorem dX11_wouldBe_1 : decode cX11_wouldBe 1 = .ok (.iload_n 1, 1) := by decide +kernel
theorem dX11_wouldBe_2 : decode cX11_wouldBe 2 = .ok (.iload_n 3, 1) := by decide +kernel
theorem dX11_wouldBe_3 : decode cX11_wouldBe 3 = .ok (.invokevirtual 322, 3) := by decide +kernel
theorem dX11_wouldBe_6 : decode cX11_wouldBe 6 = .ok (.istore 4, 2) := by decide +kernel
theorem dX11_wouldBe_8 : decode cX11_wouldBe 8 = .ok (.iload 4, 2) := by decide +kernel
theorem dX11_wouldBe_10 : decode cX11_wouldBe 10 = .ok (.ifCond .ge 6, 3) := by decide +kernel
theorem dX11_wouldBe_13 : decode cX11_wouldBe 13 = .ok (.iload 4, 2) := by decide +kernel
theorem dX11_wouldBe_15 : decode cX11_wouldBe 15 = .ok (.ireturn, 1) := by decide +kernel
theorem dX11_wouldBe_16 : decode cX11_wouldBe 16 = .ok (.aload_n 0, 1) := by decide +kernel
theorem dX11_wouldBe_17 : decode cX11_wouldBe 17 = .ok (.getfield 59, 3) := by decide +kernel
theorem dX11_wouldBe_20 : decode cX11_wouldBe 20 = .ok (.aload_n 0, 1) := by decide +kernel
theorem dX11_wouldBe_21 : decode cX11_wouldBe 21 = .ok (.getfield 36, 3) := by decide +kernel
theorem dX11_wouldBe_24 : decode cX11_wouldBe 24 = .ok (.getfield 127, 3) := by decide +kernel
theorem dX11_wouldBe_27 : decode cX11_wouldBe 27 = .ok (.invokevirtual 233, 3) := by decide +kernel
theorem dX11_wouldBe_30 : decode cX11_wouldBe 30 = .ok (.iconst 0, 1) := by decide +kernel
theorem dX11_wouldBe_31 : decode cX11_wouldBe 31 = .ok (.istore 5, 2) := by decide +kernel
theorem dX11_wouldBe_33 : decode cX11_wouldBe 33 = .ok (.iconst 0, 1) := by decide +kernel
theorem dX11_wouldBe_34 : decode cX11_wouldBe 34 = .ok (.istore 6, 2) := by decide +kernel
theorem dX11_wouldBe_36 : decode cX11_wouldBe 36 = .ok (.iload 6, 2) := by decide +kernel
theorem dX11_wouldBe_38 : decode cX11_wouldBe 38 = .ok (.iload_n 3, 1) := by decide +kernel
theorem dX11_wouldBe_39 : decode cX11_wouldBe 39 = .ok (.if_icmp .ge 91, 3) := by decide +kernel
theorem dX11_wouldBe_42 : decode cX11_wouldBe 42 = .ok (.iload_n 2, 1) := by decide +kernel
theorem dX11_wouldBe_43 : decode cX11_wouldBe 43 = .ok (.iconst 0, 1) := by decide +kernel
theorem dX11_wouldBe_44 : decode cX11_wouldBe 44 = .ok (.aload_n 0, 1) := by decide +kernel
theorem dX11_wouldBe_45 : decode cX11_wouldBe 45 = .ok (.getfield 90, 3) := by decide +kernel
theorem dX11_wouldBe_48 : decode cX11_wouldBe 48 = .ok (.iload_n 1, 1) := by decide +kernel
theorem dX11_wouldBe_49 : decode cX11_wouldBe 49 = .ok (.iaload, 1) := by decide +kernel
theorem dX11_wouldBe_50 : decode cX11_wouldBe 50 = .ok (.iconst 1, 1) := by decide +kernel
theorem dX11_wouldBe_51 : decode cX11_wouldBe 51 = .ok (.isub, 1) := by decide +kernel
theorem dX11_wouldBe_52 : decode cX11_wouldBe 52 = .ok (.iload 6, 2) := by decide +kernel
theorem dX11_wouldBe_54 : decode cX11_wouldBe 54 = .ok (.isub, 1) := by decide +kernel
theorem dX11_wouldBe_55 : decode cX11_wouldBe 55 = .ok (.invokestatic 112, 3) := by decide +kernel
theorem dX11_wouldBe_58 : decode cX11_wouldBe 58 = .ok (.ifCond .ne 6, 3) := by decide +kernel
theorem dX11_wouldBe_61 : decode cX11_wouldBe 61 = .ok (.bipush (-12), 2) := by decide +kernel
theorem dX11_wouldBe_63 : decode cX11_wouldBe 63 = .ok (.ireturn, 1) := by decide +kernel
theorem dX11_wouldBe_64 : decode cX11_wouldBe 64 = .ok (.aload_n 0, 1) := by decide +kernel
theorem dX11_wouldBe_65 : decode cX11_wouldBe 65 = .ok (.getfield 93, 3) := by decide +kernel
theorem dX11_wouldBe_68 : decode cX11_wouldBe 68 = .ok (.iload_n 1, 1) := by decide +kernel
theorem dX11_wouldBe_69 : decode cX11_wouldBe 69 = .ok (.aaload, 1) := by decide +kernel
theorem dX11_wouldBe_70 : decode cX11_wouldBe 70 = .ok (.iload_n 2, 1) := by decide +kernel
theorem dX11_wouldBe_71 : decode cX11_wouldBe 71 = .ok (.iload 6, 2) := by decide +kernel
theorem dX11_wouldBe_73 : decode cX11_wouldBe 73 = .ok (.iadd, 1) := by decide +kernel
theorem dX11_wouldBe_74 : decode cX11_wouldBe 74 = .ok (.iaload, 1) := by decide +kernel
theorem dX11_wouldBe_75 : decode cX11_wouldBe 75 = .ok (.istore 7, 2) := by decide +kernel
theorem dX11_wouldBe_77 : decode cX11_wouldBe 77 = .ok (.aload_n 0, 1) := by decide +kernel
theorem dX11_wouldBe_78 : decode cX11_wouldBe 78 = .ok (.getfield 36, 3) := by decide +kernel
theorem dX11_wouldBe_81 : decode cX11_wouldBe 81 = .ok (.iload 7, 2) := by decide +kernel
theorem dX11_wouldBe_83 : decode cX11_wouldBe 83 = .ok (.invokevirtual 316, 3) := by decide +kernel
theorem dX11_wouldBe_86 : decode cX11_wouldBe 86 = .ok (.ifCond .eq 17, 3) := by decide +kernel
theorem dX11_wouldBe_89 : decode cX11_wouldBe 89 = .ok (.aload_n 0, 1) := by decide +kernel
theorem dX11_wouldBe_90 : decode cX11_wouldBe 90 = .ok (.getfield 36, 3) := by decide +kernel
theorem dX11_wouldBe_93 : decode cX11_wouldBe 93 = .ok (.aload_n 0, 1) := by decide +kernel
theorem dX11_wouldBe_94 : decode cX11_wouldBe 94 = .ok (.getfield 59, 3) := by decide +kernel
theorem dX11_wouldBe_97 : decode cX11_wouldBe 97 = .ok (.invokevirtual 197, 3) := by decide +kernel
theorem dX11_wouldBe_100 : decode cX11_wouldBe 100 = .ok (.ifCond .eq 6, 3) := by decide +kernel
theorem dX11_wouldBe_103 : decode cX11_wouldBe 103 = .ok (.bipush (-4), 2) := by decide +kernel
theorem dX11_wouldBe_105 : decode cX11_wouldBe 105 = .ok (.ireturn, 1) := by decide +kernel
theorem dX11_wouldBe_106 : decode cX11_wouldBe 106 = .ok (.iload 5, 2) := by decide +kernel
theorem dX11_wouldBe_108 : decode cX11_wouldBe 108 = .ok (.aload_n 0, 1) := by decide +kernel
theorem dX11_wouldBe_109 : decode cX11_wouldBe 109 = .ok (.getfield 36, 3) := by decide +kernel
theorem dX11_wouldBe_112 : decode cX11_wouldBe 112 = .ok (.aload_n 0, 1) := by decide +kernel
theorem dX11_wouldBe_113 : decode cX11_wouldBe 113 = .ok (.getfield 59, 3) := by decide +kernel
theorem dX11_wouldBe_116 : decode cX11_wouldBe 116 = .ok (.iload 7, 2) := by decide +kernel
theorem dX11_wouldBe_118 : decode cX11_wouldBe 118 = .ok (.invokevirtual 241, 3) := by decide +kernel
theorem dX11_wouldBe_121 : decode cX11_wouldBe 121 = .ok (.iadd, 1) := by decide +kernel
theorem dX11_wouldBe_122 : decode cX11_wouldBe 122 = .ok (.istore 5, 2) := by decide +kernel
theorem dX11_wouldBe_124 : decode cX11_wouldBe 124 = .ok (.iinc 6 1, 3) := by decide +kernel
theorem dX11_wouldBe_127 : decode cX11_wouldBe 127 = .ok (.goto (-91), 3) := by decide +kernel
theorem dX11_wouldBe_130 : decode cX11_wouldBe 130 = .ok (.iload 5, 2) := by decide +kernel
theorem dX11_wouldBe_132 : decode cX11_wouldBe 132 = .ok (.ireturn, 1) := by decide +kernel
theorem dX11_shelf_0 : decode cX11_shelf 0 = .ok (.iload_n 1, 1) := by decide +kernel
theorem dX11_shelf_1 : decode cX11_shelf 1 = .ok (.iconst 0, 1) := by decide +kernel
theorem dX11_shelf_2 : decode cX11_shelf 2 = .ok (.iconst 3, 1) := by decide +kernel
theorem dX11_shelf_3 : decode cX11_shelf 3 = .ok (.invokestatic 112, 3) := by decide +kernel
theorem dX11_shelf_6 : decode cX11_shelf 6 = .ok (.ifCond .ne 5, 3) := by decide +kernel
theorem dX11_shelf_9 : decode cX11_shelf 9 = .ok (.iconst (-1), 1) := by decide +kernel
theorem dX11_shelf_10 : decode cX11_shelf 10 = .ok (.ireturn, 1) := by decide +kernel
theorem dX11_shelf_11 : decode cX11_shelf 11 = .ok (.iload_n 2, 1) := by decide +kernel
theorem dX11_shelf_12 : decode cX11_shelf 12 = .ok (.tableswitch 107 0 2 #[28, 49, 99], 28) := by decide +kernel
theorem dX11_shelf_40 : decode cX11_shelf 40 = .ok (.aload_n 0, 1) := by decide +kernel
theorem dX11_shelf_41 : decode cX11_shelf 41 = .ok (.getfield 36, 3) := by decide +kernel
theorem dX11_shelf_44 : decode cX11_shelf 44 = .ok (.iload_n 3, 1) := by decide +kernel
theorem dX11_shelf_45 : decode cX11_shelf 45 = .ok (.invokevirtual 123, 3) := by decide +kernel
theorem dX11_shelf_48 : decode cX11_shelf 48 = .ok (.ifCond .ne 5, 3) := by decide +kernel
theorem dX11_shelf_51 : decode cX11_shelf 51 = .ok (.iconst (-1), 1) := by decide +kernel
theorem dX11_shelf_52 : decode cX11_shelf 52 = .ok (.ireturn, 1) := by decide +kernel
theorem dX11_shelf_53 : decode cX11_shelf 53 = .ok (.aload_n 0, 1) := by decide +kernel
theorem dX11_shelf_54 : decode cX11_shelf 54 = .ok (.iload_n 1, 1) := by decide +kernel
theorem dX11_shelf_55 : decode cX11_shelf 55 = .ok (.iconst 0, 1) := by decide +kernel
theorem dX11_shelf_56 : decode cX11_shelf 56 = .ok (.iload_n 3, 1) := by decide +kernel
theorem dX11_shelf_57 : decode cX11_shelf 57 = .ok (.invokevirtual 325, 3) := by decide +kernel
theorem dX11_shelf_60 : decode cX11_shelf 60 = .ok (.ireturn, 1) := by decide +kernel
theorem dX11_shelf_61 : decode cX11_shelf 61 = .ok (.iload_n 3, 1) := by decide +kernel
theorem dX11_shelf_62 : decode cX11_shelf 62 = .ok (.iconst 0, 1) := by decide +kernel
theorem dX11_shelf_63 : decode cX11_shelf 63 = .ok (.iconst 3, 1) := by decide +kernel
theorem dX11_shelf_64 : decode cX11_shelf 64 = .ok (.invokestatic 112, 3) := by decide +kernel
theorem dX11_shelf_67 : decode cX11_shelf 67 = .ok (.ifCond .ne 5, 3) := by decide +kernel
theorem dX11_shelf_70 : decode cX11_shelf 70 = .ok (.iconst (-1), 1) := by decide +kernel
theorem dX11_shelf_71 : decode cX11_shelf 71 = .ok (.ireturn, 1) := by decide +kernel
theorem dX11_shelf_72 : decode cX11_shelf 72 = .ok (.aload_n 0, 1) := by decide +kernel
theorem dX11_shelf_73 : decode cX11_shelf 73 = .ok (.getfield 86, 3) := by decide +kernel
theorem dX11_shelf_76 : decode cX11_shelf 76 = .ok (.iload_n 3, 1) := by decide +kernel
theorem dX11_shelf_77 : decode cX11_shelf 77 = .ok (.iaload, 1) := by decide +kernel
theorem dX11_shelf_78 : decode cX11_shelf 78 = .ok (.iconst (-1), 1) := by decide +kernel
theorem dX11_shelf_79 : decode cX11_shelf 79 = .ok (.if_icmp .ne 11, 3) := by decide +kernel
theorem dX11_shelf_82 : decode cX11_shelf 82 = .ok (.aload_n 0, 1) := by decide +kernel
theorem dX11_shelf_83 : decode cX11_shelf 83 = .ok (.iload_n 1, 1) := by decide +kernel
theorem dX11_shelf_84 : decode cX11_shelf 84 = .ok (.iconst (-1), 1) := by decide +kernel
theorem dX11_shelf_85 : decode cX11_shelf 85 = .ok (.iconst 0, 1) := by decide +kernel
theorem dX11_shelf_86 : decode cX11_shelf 86 = .ok (.invokevirtual 325, 3) := by decide +kernel
theorem dX11_shelf_89 : decode cX11_shelf 89 = .ok (.ireturn, 1) := by decide +kernel
theorem dX11_shelf_90 : decode cX11_shelf 90 = .ok (.aload_n 0, 1) := by decide +kernel
theorem dX11_shelf_91 : decode cX11_shelf 91 = .ok (.iload_n 1, 1) := by decide +kernel
theorem dX11_shelf_92 : decode cX11_shelf 92 = .ok (.bipush 10, 2) := by decide +kernel
theorem dX11_shelf_94 : decode cX11_shelf 94 = .ok (.aload_n 0, 1) := by decide +kernel
theorem dX11_shelf_95 : decode cX11_shelf 95 = .ok (.getfield 86, 3) := by decide +kernel
theorem dX11_shelf_98 : decode cX11_shelf 98 = .ok (.iload_n 3, 1) := by decide +kernel
theorem dX11_shelf_99 : decode cX11_shelf 99 = .ok (.iaload, 1) := by decide +kernel
theorem dX11_shelf_100 : decode cX11_shelf 100 = .ok (.iadd, 1) := by decide +kernel
theorem dX11_shelf_101 : decode cX11_shelf 101 = .ok (.aload_n 0, 1) := by decide +kernel
theorem dX11_shelf_102 : decode cX11_shelf 102 = .ok (.getfield 90, 3) := by decide +kernel
theorem dX11_shelf_105 : decode cX11_shelf 105 = .ok (.iload_n 3, 1) := by decide +kernel
theorem dX11_shelf_106 : decode cX11_shelf 106 = .ok (.iaload, 1) := by decide +kernel
theorem dX11_shelf_107 : decode cX11_shelf 107 = .ok (.invokevirtual 325, 3) := by decide +kernel
theorem dX11_shelf_110 : decode cX11_shelf 110 = .ok (.ireturn, 1) := by decide +kernel
theorem dX11_shelf_111 : decode cX11_shelf 111 = .ok (.aload_n 0, 1) := by decide +kernel
theorem dX11_shelf_112 : decode cX11_shelf 112 = .ok (.iload_n 1, 1) := by decide +kernel
theorem dX11_shelf_113 : decode cX11_shelf 113 = .ok (.iconst (-1), 1) := by decide +kernel
theorem dX11_shelf_114 : decode cX11_shelf 114 = .ok (.iconst 0, 1) := by decide +kernel
theorem dX11_shelf_115 : decode cX11_shelf 115 = .ok (.invokevirtual 325, 3) := by decide +kernel
theorem dX11_shelf_118 : decode cX11_shelf 118 = .ok (.ireturn, 1) := by decide +kernel
theorem dX11_shelf_119 : decode cX11_shelf 119 = .ok (.iconst (-1), 1) := by decide +kernel
theorem dX11_shelf_120 : decode cX11_shelf 120 = .ok (.ireturn, 1) := by decide +kernel
theorem dX11_taken_0 : decode cX11_taken 0 = .ok (.iload_n 1, 1) := by decide +kernel
theorem dX11_taken_1 : decode cX11_taken 1 = .ok (.iconst 0, 1) := by decide +kernel
theorem dX11_taken_2 : decode cX11_taken 2 = .ok (.iconst 3, 1) := by decide +kernel
theorem dX11_taken_3 : decode cX11_taken 3 = .ok (.invokestatic 112, 3) := by decide +kernel
theorem dX11_taken_6 : decode cX11_taken 6 = .ok (.ifCond .ne 5, 3) := by decide +kernel
theorem dX11_taken_9 : decode cX11_taken 9 = .ok (.iconst (-1), 1) := by decide +kernel
theorem dX11_taken_10 : decode cX11_taken 10 = .ok (.ireturn, 1) := by decide +kernel
theorem dX11_taken_11 : decode cX11_taken 11 = .ok (.iload_n 2, 1) := by decide +kernel
theorem dX11_taken_12 : decode cX11_taken 12 = .ok (.iconst 0, 1) := by decide +kernel
theorem dX11_taken_13 : decode cX11_taken 13 = .ok (.iconst 5, 1) := by decide +kernel
theorem dX11_taken_14 : decode cX11_taken 14 = .ok (.invokestatic 112, 3) := by decide +kernel
theorem dX11_taken_17 : decode cX11_taken 17 = .ok (.ifCond .ne 16, 3) := by decide +kernel
theorem dX11_taken_20 : decode cX11_taken 20 = .ok (.iload_n 2, 1) := by decide +kernel
theorem dX11_taken_21 : decode cX11_taken 21 = .ok (.bipush 10, 2) := by decide +kernel
theorem dX11_taken_23 : decode cX11_taken 23 = .ok (.bipush 14, 2) := by decide +kernel
theorem dX11_taken_25 : decode cX11_taken 25 = .ok (.invokestatic 112, 3) := by decide +kernel
theorem dX11_taken_28 : decode cX11_taken 28 = .ok (.ifCond .ne 5, 3) := by decide +kernel
theorem dX11_taken_31 : decode cX11_taken 31 = .ok (.iconst (-1), 1) := by decide +kernel
theorem dX11_taken_32 : decode cX11_taken 32 = .ok (.ireturn, 1) := by decide +kernel
theorem dX11_taken_33 : decode cX11_taken 33 = .ok (.aload_n 0, 1) := by decide +kernel
theorem dX11_taken_34 : decode cX11_taken 34 = .ok (.iload_n 1, 1) := by decide +kernel
theorem dX11_taken_35 : decode cX11_taken 35 = .ok (.invokevirtual 328, 3) := by decide +kernel
theorem dX11_taken_38 : decode cX11_taken 38 = .ok (.istore_n 3, 1) := by decide +kernel
theorem dX11_taken_39 : decode cX11_taken 39 = .ok (.iload_n 3, 1) := by decide +kernel
theorem dX11_taken_40 : decode cX11_taken 40 = .ok (.iconst (-1), 1) := by decide +kernel
theorem dX11_taken_41 : decode cX11_taken 41 = .ok (.if_icmp .ne 6, 3) := by decide +kernel
theorem dX11_taken_44 : decode cX11_taken 44 = .ok (.bipush (-11), 2) := by decide +kernel
theorem dX11_taken_46 : decode cX11_taken 46 = .ok (.ireturn, 1) := by decide +kernel
theorem dX11_taken_47 : decode cX11_taken 47 = .ok (.iload_n 3, 1) := by decide +kernel
theorem dX11_taken_48 : decode cX11_taken 48 = .ok (.ifCond .ne 41, 3) := by decide +kernel
theorem dX11_taken_51 : decode cX11_taken 51 = .ok (.aload_n 0, 1) := by decide +kernel
theorem dX11_taken_52 : decode cX11_taken 52 = .ok (.getfield 99, 3) := by decide +kernel
theorem dX11_taken_55 : decode cX11_taken 55 = .ok (.iload_n 1, 1) := by decide +kernel
theorem dX11_taken_56 : decode cX11_taken 56 = .ok (.iaload, 1) := by decide +kernel
theorem dX11_taken_57 : decode cX11_taken 57 = .ok (.istore 4, 2) := by decide +kernel
theorem dX11_taken_59 : decode cX11_taken 59 = .ok (.iload_n 2, 1) := by decide +kernel
theorem dX11_taken_60 : decode cX11_taken 60 = .ok (.iconst 5, 1) := by decide +kernel
theorem dX11_taken_61 : decode cX11_taken 61 = .ok (.if_icmp .gt 25, 3) := by decide +kernel
theorem dX11_taken_64 : decode cX11_taken 64 = .ok (.aload_n 0, 1) := by decide +kernel
theorem dX11_taken_65 : decode cX11_taken 65 = .ok (.getfield 36, 3) := by decide +kernel
theorem dX11_taken_68 : decode cX11_taken 68 = .ok (.getfield 130, 3) := by decide +kernel
theorem dX11_taken_71 : decode cX11_taken 71 = .ok (.iload 4, 2) := by decide +kernel
theorem dX11_taken_73 : decode cX11_taken 73 = .ok (.iaload, 1) := by decide +kernel
theorem dX11_taken_74 : decode cX11_taken 74 = .ok (.iload_n 2, 1) := by decide +kernel
theorem dX11_taken_75 : decode cX11_taken 75 = .ok (.invokestatic 331, 3) := by decide +kernel
theorem dX11_taken_78 : decode cX11_taken 78 = .ok (.ifCond .eq 8, 3) := by decide +kernel
theorem dX11_taken_81 : decode cX11_taken 81 = .ok (.iload 4, 2) := by decide +kernel
theorem dX11_taken_83 : decode cX11_taken 83 = .ok (.goto 5, 3) := by decide +kernel
theorem dX11_taken_86 : decode cX11_taken 86 = .ok (.bipush (-13), 2) := by decide +kernel
theorem dX11_taken_88 : decode cX11_taken 88 = .ok (.ireturn, 1) := by decide +kernel
theorem dX11_taken_89 : decode cX11_taken 89 = .ok (.iload_n 3, 1) := by decide +kernel
theorem dX11_taken_90 : decode cX11_taken 90 = .ok (.iload_n 2, 1) := by decide +kernel
theorem dX11_taken_91 : decode cX11_taken 91 = .ok (.if_icmp .ne 12, 3) := by decide +kernel
theorem dX11_taken_94 : decode cX11_taken 94 = .ok (.aload_n 0, 1) := by decide +kernel
theorem dX11_taken_95 : decode cX11_taken 95 = .ok (.getfield 99, 3) := by decide +kernel
theorem dX11_taken_98 : decode cX11_taken 98 = .ok (.iload_n 1, 1) := by decide +kernel
theorem dX11_taken_99 : decode cX11_taken 99 = .ok (.iaload, 1) := by decide +kernel
theorem dX11_taken_100 : decode cX11_taken 100 = .ok (.goto 5, 3) := by decide +kernel
theorem dX11_taken_103 : decode cX11_taken 103 = .ok (.bipush (-13), 2) := by decide +kernel
theorem dX11_taken_105 : decode cX11_taken 105 = .ok (.ireturn, 1) := by decide +kernel
theorem dX11_act_0 : decode cX11_act 0 = .ok (.aload_n 0, 1) := by decide +kernel
theorem dX11_act_1 : decode cX11_act 1 = .ok (.aconst_null, 1) := by decide +kernel
theorem dX11_act_2 : decode cX11_act 2 = .ok (.putfield 102, 3) := by decide +kernel
theorem dX11_act_5 : decode cX11_act 5 = .ok (.iload_n 1, 1) := by decide +kernel
theorem dX11_act_6 : decode cX11_act 6 = .ok (.iconst 0, 1) := by decide +kernel
theorem dX11_act_7 : decode cX11_act 7 = .ok (.iconst 3, 1) := by decide +kernel
theorem dX11_act_8 : decode cX11_act 8 = .ok (.invokestatic 112, 3) := by decide +kernel
theorem dX11_act_11 : decode cX11_act 11 = .ok (.ifCond .eq 12, 3) := by decide +kernel
theorem dX11_act_14 : decode cX11_act 14 = .ok (.iload_n 2, 1) := by decide +kernel
theorem dX11_act_15 : decode cX11_act 15 = .ok (.iconst 0, 1) := by decide +kernel
theorem dX11_act_16 : decode cX11_act 16 = .ok (.iconst 3, 1) := by decide +kernel
theorem dX11_act_17 : decode cX11_act 17 = .ok (.invokestatic 112, 3) := by decide +kernel
theorem dX11_act_20 : decode cX11_act 20 = .ok (.ifCond .ne 5, 3) := by decide +kernel
theorem dX11_act_23 : decode cX11_act 23 = .ok (.iconst 0, 1) := by decide +kernel
theorem dX11_act_24 : decode cX11_act 24 = .ok (.ireturn, 1) := by decide +kernel
theorem dX11_act_25 : decode cX11_act 25 = .ok (.aload_n 0, 1) := by decide +kernel
theorem dX11_act_26 : decode cX11_act 26 = .ok (.iload_n 1, 1) := by decide +kernel
theorem dX11_act_27 : decode cX11_act 27 = .ok (.invokevirtual 328, 3) := by decide +kernel
theorem dX11_act_30 : decode cX11_act 30 = .ok (.ifCond .eq 5, 3) := by decide +kernel
theorem dX11_act_33 : decode cX11_act 33 = .ok (.iconst 0, 1) := by decide +kernel
theorem dX11_act_34 : decode cX11_act 34 = .ok (.ireturn, 1) := by decide +kernel
theorem dX11_act_35 : decode cX11_act 35 = .ok (.aload_n 0, 1) := by decide +kernel
theorem dX11_act_36 : decode cX11_act 36 = .ok (.getfield 99, 3) := by decide +kernel
theorem dX11_act_39 : decode cX11_act 39 = .ok (.iload_n 1, 1) := by decide +kernel
theorem dX11_act_40 : decode cX11_act 40 = .ok (.iaload, 1) := by decide +kernel
theorem dX11_act_41 : decode cX11_act 41 = .ok (.istore 4, 2) := by decide +kernel
theorem dX11_act_43 : decode cX11_act 43 = .ok (.aload_n 0, 1) := by decide +kernel
theorem dX11_act_44 : decode cX11_act 44 = .ok (.aload_n 0, 1) := by decide +kernel
theorem dX11_act_45 : decode cX11_act 45 = .ok (.getfield 25, 3) := by decide +kernel
theorem dX11_act_48 : decode cX11_act 48 = .ok (.aload_n 0, 1) := by decide +kernel
theorem dX11_act_49 : decode cX11_act 49 = .ok (.getfield 36, 3) := by decide +kernel
theorem dX11_act_52 : decode cX11_act 52 = .ok (.getfield 130, 3) := by decide +kernel
theorem dX11_act_55 : decode cX11_act 55 = .ok (.iload 4, 2) := by decide +kernel
theorem dX11_act_57 : decode cX11_act 57 = .ok (.iaload, 1) := by decide +kernel
theorem dX11_act_58 : decode cX11_act 58 = .ok (.aaload, 1) := by decide +kernel
theorem dX11_act_59 : decode cX11_act 59 = .ok (.putfield 102, 3) := by decide +kernel
theorem dX11_act_62 : decode cX11_act 62 = .ok (.aload_n 0, 1) := by decide +kernel
theorem dX11_act_63 : decode cX11_act 63 = .ok (.getfield 102, 3) := by decide +kernel
theorem dX11_act_66 : decode cX11_act 66 = .ok (.iload 4, 2) := by decide +kernel
theorem dX11_act_68 : decode cX11_act 68 = .ok (.aload_n 0, 1) := by decide +kernel
theorem dX11_act_69 : decode cX11_act 69 = .ok (.getfield 36, 3) := by decide +kernel
theorem dX11_act_72 : decode cX11_act 72 = .ok (.getfield 139, 3) := by decide +kernel
theorem dX11_act_75 : decode cX11_act 75 = .ok (.iload 4, 2) := by decide +kernel
theorem dX11_act_77 : decode cX11_act 77 = .ok (.iaload, 1) := by decide +kernel
theorem dX11_act_78 : decode cX11_act 78 = .ok (.invokevirtual 335, 3) := by decide +kernel
theorem dX11_act_81 : decode cX11_act 81 = .ok (.iload_n 2, 1) := by decide +kernel
theorem dX11_act_82 : decode cX11_act 82 = .ok (.tableswitch 65 0 2 #[26, 39, 52], 26) := by decide +kernel
theorem dX11_act_108 : decode cX11_act 108 = .ok (.aload_n 0, 1) := by decide +kernel
theorem dX11_act_109 : decode cX11_act 109 = .ok (.getfield 102, 3) := by decide +kernel
theorem dX11_act_112 : decode cX11_act 112 = .ok (.iload_n 3, 1) := by decide +kernel
theorem dX11_act_113 : decode cX11_act 113 = .ok (.invokevirtual 339, 3) := by decide +kernel
theorem dX11_act_116 : decode cX11_act 116 = .ok (.istore 5, 2) := by decide +kernel
theorem dX11_act_118 : decode cX11_act 118 = .ok (.goto 39, 3) := by decide +kernel
theorem dX11_act_121 : decode cX11_act 121 = .ok (.aload_n 0, 1) := by decide +kernel
theorem dX11_act_122 : decode cX11_act 122 = .ok (.getfield 102, 3) := by decide +kernel
theorem dX11_act_125 : decode cX11_act 125 = .ok (.iload_n 3, 1) := by decide +kernel
theorem dX11_act_126 : decode cX11_act 126 = .ok (.invokevirtual 342, 3) := by decide +kernel
theorem dX11_act_129 : decode cX11_act 129 = .ok (.istore 5, 2) := by decide +kernel
theorem dX11_act_131 : decode cX11_act 131 = .ok (.goto 26, 3) := by decide +kernel
theorem dX11_act_134 : decode cX11_act 134 = .ok (.aload_n 0, 1) := by decide +kernel
theorem dX11_act_135 : decode cX11_act 135 = .ok (.getfield 102, 3) := by decide +kernel
theorem dX11_act_138 : decode cX11_act 138 = .ok (.iload_n 3, 1) := by decide +kernel
theorem dX11_act_139 : decode cX11_act 139 = .ok (.invokevirtual 345, 3) := by decide +kernel
theorem dX11_act_142 : decode cX11_act 142 = .ok (.istore 5, 2) := by decide +kernel
theorem dX11_act_144 : decode cX11_act 144 = .ok (.goto 13, 3) := by decide +kernel
theorem dX11_act_147 : decode cX11_act 147 = .ok (.aload_n 0, 1) := by decide +kernel
theorem dX11_act_148 : decode cX11_act 148 = .ok (.getfield 102, 3) := by decide +kernel
theorem dX11_act_151 : decode cX11_act 151 = .ok (.iload_n 3, 1) := by decide +kernel
theorem dX11_act_152 : decode cX11_act 152 = .ok (.invokevirtual 348, 3) := by decide +kernel
theorem dX11_act_155 : decode cX11_act 155 = .ok (.istore 5, 2) := by decide +kernel
theorem dX11_act_157 : decode cX11_act 157 = .ok (.aload_n 0, 1) := by decide +kernel
theorem dX11_act_158 : decode cX11_act 158 = .ok (.getfield 102, 3) := by decide +kernel
theorem dX11_act_161 : decode cX11_act 161 = .ok (.getfield 351, 3) := by decide +kernel
theorem dX11_act_164 : decode cX11_act 164 = .ok (.ifCond .eq 8, 3) := by decide +kernel
theorem dX11_act_167 : decode cX11_act 167 = .ok (.bipush (-15), 2) := by decide +kernel
theorem dX11_act_169 : decode cX11_act 169 = .ok (.goto 5, 3) := by decide +kernel
theorem dX11_act_172 : decode cX11_act 172 = .ok (.iload 5, 2) := by decide +kernel
theorem dX11_act_174 : decode cX11_act 174 = .ok (.ireturn, 1) := by decide +kernel
theorem dX11_trace_0 : decode cX11_trace 0 = .ok (.aload_n 0, 1) := by decide +kernel
theorem dX11_trace_1 : decode cX11_trace 1 = .ok (.getfield 102, 3) := by decide +kernel
theorem dX11_trace_4 : decode cX11_trace 4 = .ok (.ifnull 20, 3) := by decide +kernel
theorem dX11_trace_7 : decode cX11_trace 7 = .ok (.iload_n 1, 1) := by decide +kernel
theorem dX11_trace_8 : decode cX11_trace 8 = .ok (.iconst 0, 1) := by decide +kernel
theorem dX11_trace_9 : decode cX11_trace 9 = .ok (.aload_n 0, 1) := by decide +kernel
theorem dX11_trace_10 : decode cX11_trace 10 = .ok (.getfield 102, 3) := by decide +kernel
theorem dX11_trace_13 : decode cX11_trace 13 = .ok (.getfield 354, 3) := by decide +kernel
theorem dX11_trace_16 : decode cX11_trace 16 = .ok (.iconst 1, 1) := by decide +kernel
theorem dX11_trace_17 : decode cX11_trace 17 = .ok (.isub, 1) := by decide +kernel
theorem dX11_trace_18 : decode cX11_trace 18 = .ok (.invokestatic 112, 3) := by decide +kernel
theorem dX11_trace_21 : decode cX11_trace 21 = .ok (.ifCond .ne 6, 3) := by decide +kernel
theorem dX11_trace_24 : decode cX11_trace 24 = .ok (.bipush (-3), 2) := by decide +kernel
theorem dX11_trace_26 : decode cX11_trace 26 = .ok (.ireturn, 1) := by decide +kernel
theorem dX11_trace_27 : decode cX11_trace 27 = .ok (.aload_n 0, 1) := by decide +kernel
theorem dX11_trace_28 : decode cX11_trace 28 = .ok (.getfield 102, 3) := by decide +kernel
theorem dX11_trace_31 : decode cX11_trace 31 = .ok (.getfield 357, 3) := by decide +kernel
theorem dX11_trace_34 : decode cX11_trace 34 = .ok (.iload_n 1, 1) := by decide +kernel
theorem dX11_trace_35 : decode cX11_trace 35 = .ok (.iaload, 1) := by decide +kernel
theorem dX11_trace_36 : decode cX11_trace 36 = .ok (.ireturn, 1) := by decide +kernel
theorem dX11_many_0 : decode cX11_many 0 = .ok (.iload_n 1, 1) := by decide +kernel
theorem dX11_many_1 : decode cX11_many 1 = .ok (.tableswitch 116 0 6 #[43, 51, 62, 76, 87, 92, 97], 43) := by decide +kernel
theorem dX11_many_44 : decode cX11_many 44 = .ok (.aload_n 0, 1) := by decide +kernel
theorem dX11_many_45 : decode cX11_many 45 = .ok (.getfield 36, 3) := by decide +kernel
theorem dX11_many_48 : decode cX11_many 48 = .ok (.getfield 116, 3) := by decide +kernel
theorem dX11_many_51 : decode cX11_many 51 = .ok (.ireturn, 1) := by decide +kernel
theorem dX11_many_52 : decode cX11_many 52 = .ok (.aload_n 0, 1) := by decide +kernel
theorem dX11_many_53 : decode cX11_many 53 = .ok (.getfield 36, 3) := by decide +kernel
theorem dX11_many_56 : decode cX11_many 56 = .ok (.getfield 213, 3) := by decide +kernel
theorem dX11_many_59 : decode cX11_many 59 = .ok (.getfield 360, 3) := by decide +kernel
theorem dX11_many_62 : decode cX11_many 62 = .ok (.ireturn, 1) := by decide +kernel
theorem dX11_many_63 : decode cX11_many 63 = .ok (.aload_n 0, 1) := by decide +kernel
theorem dX11_many_64 : decode cX11_many 64 = .ok (.getfield 36, 3) := by decide +kernel
theorem dX11_many_67 : decode cX11_many 67 = .ok (.getfield 127, 3) := by decide +kernel
theorem dX11_many_70 : decode cX11_many 70 = .ok (.getfield 191, 3) := by decide +kernel
theorem dX11_many_73 : decode cX11_many 73 = .ok (.invokestatic 361, 3) := by decide +kernel
theorem dX11_many_76 : decode cX11_many 76 = .ok (.ireturn, 1) := by decide +kernel
theorem dX11_many_77 : decode cX11_many 77 = .ok (.aload_n 0, 1) := by decide +kernel
theorem dX11_many_78 : decode cX11_many 78 = .ok (.getfield 36, 3) := by decide +kernel
theorem dX11_many_81 : decode cX11_many 81 = .ok (.getfield 281, 3) := by decide +kernel
theorem dX11_many_84 : decode cX11_many 84 = .ok (.getfield 285, 3) := by decide +kernel
theorem dX11_many_87 : decode cX11_many 87 = .ok (.ireturn, 1) := by decide +kernel
theorem dX11_many_88 : decode cX11_many 88 = .ok (.aload_n 0, 1) := by decide +kernel
theorem dX11_many_89 : decode cX11_many 89 = .ok (.getfield 83, 3) := by decide +kernel
theorem dX11_many_92 : decode cX11_many 92 = .ok (.ireturn, 1) := by decide +kernel
theorem dX11_many_93 : decode cX11_many 93 = .ok (.aload_n 0, 1) := by decide +kernel
theorem dX11_many_94 : decode cX11_many 94 = .ok (.getfield 67, 3) := by decide +kernel
theorem dX11_many_97 : decode cX11_many 97 = .ok (.ireturn, 1) := by decide +kernel
theorem dX11_many_98 : decode cX11_many 98 = .ok (.aload_n 0, 1) := by decide +kernel
theorem dX11_many_99 : decode cX11_many 99 = .ok (.getfield 102, 3) := by decide +kernel
theorem dX11_many_102 : decode cX11_many 102 = .ok (.ifnonnull 7, 3) := by decide +kernel
theorem dX11_many_105 : decode cX11_many 105 = .ok (.iconst 0, 1) := by decide +kernel
theorem dX11_many_106 : decode cX11_many 106 = .ok (.goto 10, 3) := by decide +kernel
theorem dX11_many_109 : decode cX11_many 109 = .ok (.aload_n 0, 1) := by decide +kernel
theorem dX11_many_110 : decode cX11_many 110 = .ok (.getfield 102, 3) := by decide +kernel
theorem dX11_many_113 : decode cX11_many 113 = .ok (.getfield 354, 3) := by decide +kernel
theorem dX11_many_116 : decode cX11_many 116 = .ok (.ireturn, 1) := by decide +kernel
theorem dX11_many_117 : decode cX11_many 117 = .ok (.iconst (-1), 1) := by decide +kernel
theorem dX11_many_118 : decode cX11_many 118 = .ok (.ireturn, 1) := by decide +kernel
theorem dX11_keep_0 : decode cX11_keep 0 = .ok (.aload_n 0, 1) := by decide +kernel
theorem dX11_keep_1 : decode cX11_keep 1 = .ok (.getfield 40, 3) := by decide +kernel
theorem dX11_keep_4 : decode cX11_keep 4 = .ok (.aload_n 0, 1) := by decide +kernel
theorem dX11_keep_5 : decode cX11_keep 5 = .ok (.getfield 36, 3) := by decide +kernel
theorem dX11_keep_8 : decode cX11_keep 8 = .ok (.invokevirtual 366, 3) := by decide +kernel
theorem dX11_keep_11 : decode cX11_keep 11 = .ok (.aload_n 0, 1) := by decide +kernel
theorem dX11_keep_12 : decode cX11_keep 12 = .ok (.iconst 1, 1) := by decide +kernel
theorem dX11_keep_13 : decode cX11_keep 13 = .ok (.putfield 43, 3) := by decide +kernel
theorem dX11_keep_16 : decode cX11_keep 16 = .ok (.iconst 1, 1) := by decide +kernel
theorem dX11_keep_17 : decode cX11_keep 17 = .ok (.ireturn, 1) := by decide +kernel
theorem dX11_again_0 : decode cX11_again 0 = .ok (.aload_n 0, 1) := by decide +kernel
theorem dX11_again_1 : decode cX11_again 1 = .ok (.getfield 43, 3) := by decide +kernel
theorem dX11_again_4 : decode cX11_again 4 = .ok (.ifCond .ne 6, 3) := by decide +kernel
theorem dX11_again_7 : decode cX11_again 7 = .ok (.bipush (-3), 2) := by decide +kernel
theorem dX11_again_9 : decode cX11_again 9 = .ok (.ireturn, 1) := by decide +kernel
theorem dX11_again_10 : decode cX11_again 10 = .ok (.aload_n 0, 1) := by decide +kernel
theorem dX11_again_11 : decode cX11_again 11 = .ok (.getfield 36, 3) := by decide +kernel
theorem dX11_again_14 : decode cX11_again 14 = .ok (.aload_n 0, 1) := by decide +kernel
theorem dX11_again_15 : decode cX11_again 15 = .ok (.getfield 40, 3) := by decide +kernel
theorem dX11_again_18 : decode cX11_again 18 = .ok (.invokevirtual 366, 3) := by decide +kernel
theorem dX11_again_21 : decode cX11_again 21 = .ok (.aload_n 0, 1) := by decide +kernel
theorem dX11_again_22 : decode cX11_again 22 = .ok (.getfield 36, 3) := by decide +kernel
theorem dX11_again_25 : decode cX11_again 25 = .ok (.getfield 116, 3) := by decide +kernel
theorem dX11_again_28 : decode cX11_again 28 = .ok (.ireturn, 1) := by decide +kernel
theorem dX11_within_0 : decode cX11_within 0 = .ok (.iload_n 0, 1) := by decide +kernel
theorem dX11_within_1 : decode cX11_within 1 = .ok (.iload_n 1, 1) := by decide +kernel
theorem dX11_within_2 : decode cX11_within 2 = .ok (.if_icmp .lt 12, 3) := by decide +kernel
theorem dX11_within_5 : decode cX11_within 5 = .ok (.iload_n 0, 1) := by decide +kernel
theorem dX11_within_6 : decode cX11_within 6 = .ok (.iload_n 2, 1) := by decide +kernel
theorem dX11_within_7 : decode cX11_within 7 = .ok (.if_icmp .gt 7, 3) := by decide +kernel
theorem dX11_within_10 : decode cX11_within 10 = .ok (.iconst 1, 1) := by decide +kernel
theorem dX11_within_11 : decode cX11_within 11 = .ok (.goto 4, 3) := by decide +kernel
theorem dX11_within_14 : decode cX11_within 14 = .ok (.iconst 0, 1) := by decide +kernel
theorem dX11_within_15 : decode cX11_within 15 = .ok (.ireturn, 1) := by decide +kernel
theorem dX11_replace_0 : decode cX11_replace 0 = .ok (.aload_n 0, 1) := by decide +kernel
theorem dX11_replace_1 : decode cX11_replace 1 = .ok (.iload_n 1, 1) := by decide +kernel
theorem dX11_replace_2 : decode cX11_replace 2 = .ok (.iaload, 1) := by decide +kernel
theorem dX11_replace_3 : decode cX11_replace 3 = .ok (.istore_n 3, 1) := by decide +kernel
theorem dX11_replace_4 : decode cX11_replace 4 = .ok (.aload_n 0, 1) := by decide +kernel
theorem dX11_replace_5 : decode cX11_replace 5 = .ok (.iload_n 1, 1) := by decide +kernel
theorem dX11_replace_6 : decode cX11_replace 6 = .ok (.iload_n 2, 1) := by decide +kernel
theorem dX11_replace_7 : decode cX11_replace 7 = .ok (.iastore, 1) := by decide +kernel
theorem dX11_replace_8 : decode cX11_replace 8 = .ok (.iload_n 3, 1) := by decide +kernel
theorem dX11_replace_9 : decode cX11_replace 9 = .ok (.ireturn, 1) := by decide +kernel
theorem dX11_isOrIsUnder_0 : decode cX11_isOrIsUnder 0 = .ok (.getstatic 368, 3) := by decide +kernel
theorem dX11_isOrIsUnder_3 : decode cX11_isOrIsUnder 3 = .ok (.iload_n 0, 1) := by decide +kernel
theorem dX11_isOrIsUnder_4 : decode cX11_isOrIsUnder 4 = .ok (.iaload, 1) := by decide +kernel
theorem dX11_isOrIsUnder_5 : decode cX11_isOrIsUnder 5 = .ok (.iload_n 1, 1) := by decide +kernel
theorem dX11_isOrIsUnder_6 : decode cX11_isOrIsUnder 6 = .ok (.ishr, 1) := by decide +kernel
theorem dX11_isOrIsUnder_7 : decode cX11_isOrIsUnder 7 = .ok (.iconst 1, 1) := by decide +kernel
theorem dX11_isOrIsUnder_8 : decode cX11_isOrIsUnder 8 = .ok (.iand, 1) := by decide +kernel
theorem dX11_isOrIsUnder_9 : decode cX11_isOrIsUnder 9 = .ok (.ifCond .eq 7, 3) := by decide +kernel
theorem dX11_isOrIsUnder_12 : decode cX11_isOrIsUnder 12 = .ok (.iconst 1, 1) := by decide +kernel
theorem dX11_isOrIsUnder_13 : decode cX11_isOrIsUnder 13 = .ok (.goto 4, 3) := by decide +kernel
theorem dX11_isOrIsUnder_16 : decode cX11_isOrIsUnder 16 = .ok (.iconst 0, 1) := by decide +kernel
theorem dX11_isOrIsUnder_17 : decode cX11_isOrIsUnder 17 = .ok (.ireturn, 1) := by decide +kernel
theorem dX11_leastOf_0 : decode cX11_leastOf 0 = .ok (.iconst 0, 1) := by decide +kernel
theorem dX11_leastOf_1 : decode cX11_leastOf 1 = .ok (.istore_n 1, 1) := by decide +kernel
theorem dX11_leastOf_2 : decode cX11_leastOf 2 = .ok (.iload_n 1, 1) := by decide +kernel
theorem dX11_leastOf_3 : decode cX11_leastOf 3 = .ok (.bipush 6, 2) := by decide +kernel
theorem dX11_leastOf_5 : decode cX11_leastOf 5 = .ok (.if_icmp .ge 19, 3) := by decide +kernel
theorem dX11_leastOf_8 : decode cX11_leastOf 8 = .ok (.iload_n 0, 1) := by decide +kernel
theorem dX11_leastOf_9 : decode cX11_leastOf 9 = .ok (.iload_n 1, 1) := by decide +kernel
theorem dX11_leastOf_10 : decode cX11_leastOf 10 = .ok (.ishr, 1) := by decide +kernel
theorem dX11_leastOf_11 : decode cX11_leastOf 11 = .ok (.iconst 1, 1) := by decide +kernel
theorem dX11_leastOf_12 : decode cX11_leastOf 12 = .ok (.iand, 1) := by decide +kernel
theorem dX11_leastOf_13 : decode cX11_leastOf 13 = .ok (.ifCond .eq 5, 3) := by decide +kernel
theorem dX11_leastOf_16 : decode cX11_leastOf 16 = .ok (.iload_n 1, 1) := by decide +kernel
theorem dX11_leastOf_17 : decode cX11_leastOf 17 = .ok (.ireturn, 1) := by decide +kernel
theorem dX11_leastOf_18 : decode cX11_leastOf 18 = .ok (.iinc 1 1, 3) := by decide +kernel
theorem dX11_leastOf_21 : decode cX11_leastOf 21 = .ok (.goto (-19), 3) := by decide +kernel
theorem dX11_leastOf_24 : decode cX11_leastOf 24 = .ok (.bipush (-3), 2) := by decide +kernel
theorem dX11_leastOf_26 : decode cX11_leastOf 26 = .ok (.ireturn, 1) := by decide +kernel
theorem dX11_nextLot_0 : decode cX11_nextLot 0 = .ok (.iload_n 0, 1) := by decide +kernel
theorem dX11_nextLot_1 : decode cX11_nextLot 1 = .ok (.ldc_w 371, 3) := by decide +kernel
theorem dX11_nextLot_4 : decode cX11_nextLot 4 = .ok (.imul, 1) := by decide +kernel
theorem dX11_nextLot_5 : decode cX11_nextLot 5 = .ok (.sipush 12345, 3) := by decide +kernel
theorem dX11_nextLot_8 : decode cX11_nextLot 8 = .ok (.iadd, 1) := by decide +kernel
theorem dX11_nextLot_9 : decode cX11_nextLot 9 = .ok (.ireturn, 1) := by decide +kernel
theorem dX11_narrowed_0 : decode cX11_narrowed 0 = .ok (.iload_n 1, 1) := by decide +kernel
theorem dX11_narrowed_1 : decode cX11_narrowed 1 = .ok (.tableswitch 51 0 4 #[35, 38, 51, 51, 41], 35) := by decide +kernel
theorem dX11_narrowed_36 : decode cX11_narrowed 36 = .ok (.iload_n 0, 1) := by decide +kernel
theorem dX11_narrowed_37 : decode cX11_narrowed 37 = .ok (.i2b, 1) := by decide +kernel
theorem dX11_narrowed_38 : decode cX11_narrowed 38 = .ok (.ireturn, 1) := by decide +kernel
theorem dX11_narrowed_39 : decode cX11_narrowed 39 = .ok (.iload_n 0, 1) := by decide +kernel
theorem dX11_narrowed_40 : decode cX11_narrowed 40 = .ok (.i2s, 1) := by decide +kernel
theorem dX11_narrowed_41 : decode cX11_narrowed 41 = .ok (.ireturn, 1) := by decide +kernel
theorem dX11_narrowed_42 : decode cX11_narrowed 42 = .ok (.iload_n 0, 1) := by decide +kernel
theorem dX11_narrowed_43 : decode cX11_narrowed 43 = .ok (.ifCond .eq 7, 3) := by decide +kernel
theorem dX11_narrowed_46 : decode cX11_narrowed 46 = .ok (.iconst 1, 1) := by decide +kernel
theorem dX11_narrowed_47 : decode cX11_narrowed 47 = .ok (.goto 4, 3) := by decide +kernel
theorem dX11_narrowed_50 : decode cX11_narrowed 50 = .ok (.iconst 0, 1) := by decide +kernel
theorem dX11_narrowed_51 : decode cX11_narrowed 51 = .ok (.ireturn, 1) := by decide +kernel
theorem dX11_narrowed_52 : decode cX11_narrowed 52 = .ok (.iload_n 0, 1) := by decide +kernel
theorem dX11_narrowed_53 : decode cX11_narrowed 53 = .ok (.ireturn, 1) := by decide +kernel
theorem dX11_goOn_0 : decode cX11_goOn 0 = .ok (.aload_n 0, 1) := by decide +kernel
theorem dX11_goOn_1 : decode cX11_goOn 1 = .ok (.getfield 36, 3) := by decide +kernel
theorem dX11_goOn_4 : decode cX11_goOn 4 = .ok (.aload_n 0, 1) := by decide +kernel
theorem dX11_goOn_5 : decode cX11_goOn 5 = .ok (.getfield 36, 3) := by decide +kernel
theorem dX11_goOn_8 : decode cX11_goOn 8 = .ok (.getfield 127, 3) := by decide +kernel
theorem dX11_goOn_11 : decode cX11_goOn 11 = .ok (.iload_n 1, 1) := by decide +kernel
theorem dX11_goOn_12 : decode cX11_goOn 12 = .ok (.invokevirtual 241, 3) := by decide +kernel
theorem dX11_goOn_15 : decode cX11_goOn 15 = .ok (.istore_n 2, 1) := by decide +kernel
theorem dX11_goOn_16 : decode cX11_goOn 16 = .ok (.aload_n 0, 1) := by decide +kernel
theorem dX11_goOn_17 : decode cX11_goOn 17 = .ok (.getfield 36, 3) := by decide +kernel
theorem dX11_goOn_20 : decode cX11_goOn 20 = .ok (.dup, 1) := by decide +kernel
theorem dX11_goOn_21 : decode cX11_goOn 21 = .ok (.getfield 194, 3) := by decide +kernel
theorem dX11_goOn_24 : decode cX11_goOn 24 = .ok (.iload_n 2, 1) := by decide +kernel
theorem dX11_goOn_25 : decode cX11_goOn 25 = .ok (.iadd, 1) := by decide +kernel
theorem dX11_goOn_26 : decode cX11_goOn 26 = .ok (.putfield 194, 3) := by decide +kernel
theorem dX11_goOn_29 : decode cX11_goOn 29 = .ok (.iload_n 2, 1) := by decide +kernel
theorem dX11_goOn_30 : decode cX11_goOn 30 = .ok (.ireturn, 1) := by decide +kernel
theorem dX11_restWorth_0 : decode cX11_restWorth 0 = .ok (.aload_n 0, 1) := by decide +kernel
theorem dX11_restWorth_1 : decode cX11_restWorth 1 = .ok (.getfield 59, 3) := by decide +kernel
theorem dX11_restWorth_4 : decode cX11_restWorth 4 = .ok (.aload_n 0, 1) := by decide +kernel
theorem dX11_restWorth_5 : decode cX11_restWorth 5 = .ok (.getfield 36, 3) := by decide +kernel
theorem dX11_restWorth_8 : decode cX11_restWorth 8 = .ok (.getfield 127, 3) := by decide +kernel
theorem dX11_restWorth_11 : decode cX11_restWorth 11 = .ok (.invokevirtual 233, 3) := by decide +kernel
theorem dX11_restWorth_14 : decode cX11_restWorth 14 = .ok (.iconst 0, 1) := by decide +kernel
theorem dX11_restWorth_15 : decode cX11_restWorth 15 = .ok (.istore_n 2, 1) := by decide +kernel
theorem dX11_restWorth_16 : decode cX11_restWorth 16 = .ok (.iconst 0, 1) := by decide +kernel
theorem dX11_restWorth_17 : decode cX11_restWorth 17 = .ok (.istore_n 3, 1) := by decide +kernel
theorem dX11_restWorth_18 : decode cX11_restWorth 18 = .ok (.iload_n 3, 1) := by decide +kernel
theorem dX11_restWorth_19 : decode cX11_restWorth 19 = .ok (.iload_n 1, 1) := by decide +kernel
theorem dX11_restWorth_20 : decode cX11_restWorth 20 = .ok (.if_icmp .ge 48, 3) := by decide +kernel
theorem dX11_restWorth_23 : decode cX11_restWorth 23 = .ok (.aload_n 0, 1) := by decide +kernel
theorem dX11_restWorth_24 : decode cX11_restWorth 24 = .ok (.getfield 36, 3) := by decide +kernel
theorem dX11_restWorth_27 : decode cX11_restWorth 27 = .ok (.aload_n 0, 1) := by decide +kernel
theorem dX11_restWorth_28 : decode cX11_restWorth 28 = .ok (.getfield 59, 3) := by decide +kernel
theorem dX11_restWorth_31 : decode cX11_restWorth 31 = .ok (.invokevirtual 197, 3) := by decide +kernel
theorem dX11_restWorth_34 : decode cX11_restWorth 34 = .ok (.ifCond .ne 34, 3) := by decide +kernel
theorem dX11_restWorth_37 : decode cX11_restWorth 37 = .ok (.iload_n 2, 1) := by decide +kernel
theorem dX11_restWorth_38 : decode cX11_restWorth 38 = .ok (.aload_n 0, 1) := by decide +kernel
theorem dX11_restWorth_39 : decode cX11_restWorth 39 = .ok (.getfield 36, 3) := by decide +kernel
theorem dX11_restWorth_42 : decode cX11_restWorth 42 = .ok (.aload_n 0, 1) := by decide +kernel
theorem dX11_restWorth_43 : decode cX11_restWorth 43 = .ok (.getfield 59, 3) := by decide +kernel
theorem dX11_restWorth_46 : decode cX11_restWorth 46 = .ok (.aload_n 0, 1) := by decide +kernel
theorem dX11_restWorth_47 : decode cX11_restWorth 47 = .ok (.getfield 36, 3) := by decide +kernel
theorem dX11_restWorth_50 : decode cX11_restWorth 50 = .ok (.aload_n 0, 1) := by decide +kernel
theorem dX11_restWorth_51 : decode cX11_restWorth 51 = .ok (.getfield 59, 3) := by decide +kernel
theorem dX11_restWorth_54 : decode cX11_restWorth 54 = .ok (.invokevirtual 216, 3) := by decide +kernel
theorem dX11_restWorth_57 : decode cX11_restWorth 57 = .ok (.invokevirtual 241, 3) := by decide +kernel
theorem dX11_restWorth_60 : decode cX11_restWorth 60 = .ok (.iadd, 1) := by decide +kernel
theorem dX11_restWorth_61 : decode cX11_restWorth 61 = .ok (.istore_n 2, 1) := by decide +kernel
theorem dX11_restWorth_62 : decode cX11_restWorth 62 = .ok (.iinc 3 1, 3) := by decide +kernel
theorem dX11_restWorth_65 : decode cX11_restWorth 65 = .ok (.goto (-47), 3) := by decide +kernel
theorem dX11_restWorth_68 : decode cX11_restWorth 68 = .ok (.iload_n 2, 1) := by decide +kernel
theorem dX11_restWorth_69 : decode cX11_restWorth 69 = .ok (.ireturn, 1) := by decide +kernel
theorem dX11_firstFallen_0 : decode cX11_firstFallen 0 = .ok (.aload_n 0, 1) := by decide +kernel
theorem dX11_firstFallen_1 : decode cX11_firstFallen 1 = .ok (.getfield 36, 3) := by decide +kernel
theorem dX11_firstFallen_4 : decode cX11_firstFallen 4 = .ok (.getfield 127, 3) := by decide +kernel
theorem dX11_firstFallen_7 : decode cX11_firstFallen 7 = .ok (.iload_n 1, 1) := by decide +kernel
theorem dX11_firstFallen_8 : decode cX11_firstFallen 8 = .ok (.invokevirtual 142, 3) := by decide +kernel
theorem dX11_firstFallen_11 : decode cX11_firstFallen 11 = .ok (.ifCond .eq 6, 3) := by decide +kernel
theorem dX11_firstFallen_14 : decode cX11_firstFallen 14 = .ok (.bipush (-3), 2) := by decide +kernel
theorem dX11_firstFallen_16 : decode cX11_firstFallen 16 = .ok (.ireturn, 1) := by decide +kernel
theorem dX11_firstFallen_17 : decode cX11_firstFallen 17 = .ok (.aload_n 0, 1) := by decide +kernel
theorem dX11_firstFallen_18 : decode cX11_firstFallen 18 = .ok (.getfield 59, 3) := by decide +kernel
theorem dX11_firstFallen_21 : decode cX11_firstFallen 21 = .ok (.aload_n 0, 1) := by decide +kernel
theorem dX11_firstFallen_22 : decode cX11_firstFallen 22 = .ok (.getfield 36, 3) := by decide +kernel
theorem dX11_firstFallen_25 : decode cX11_firstFallen 25 = .ok (.getfield 127, 3) := by decide +kernel
theorem dX11_firstFallen_28 : decode cX11_firstFallen 28 = .ok (.invokevirtual 233, 3) := by decide +kernel
theorem dX11_firstFallen_31 : decode cX11_firstFallen 31 = .ok (.iconst 0, 1) := by decide +kernel
theorem dX11_firstFallen_32 : decode cX11_firstFallen 32 = .ok (.istore_n 3, 1) := by decide +kernel
theorem dX11_firstFallen_33 : decode cX11_firstFallen 33 = .ok (.iload_n 3, 1) := by decide +kernel
theorem dX11_firstFallen_34 : decode cX11_firstFallen 34 = .ok (.bipush 16, 2) := by decide +kernel
theorem dX11_firstFallen_36 : decode cX11_firstFallen 36 = .ok (.if_icmp .ge 75, 3) := by decide +kernel
theorem dX11_firstFallen_39 : decode cX11_firstFallen 39 = .ok (.aload_n 0, 1) := by decide +kernel
theorem dX11_firstFallen_40 : decode cX11_firstFallen 40 = .ok (.getfield 36, 3) := by decide +kernel
theorem dX11_firstFallen_43 : decode cX11_firstFallen 43 = .ok (.aload_n 0, 1) := by decide +kernel
theorem dX11_firstFallen_44 : decode cX11_firstFallen 44 = .ok (.getfield 59, 3) := by decide +kernel
theorem dX11_firstFallen_47 : decode cX11_firstFallen 47 = .ok (.invokevirtual 197, 3) := by decide +kernel
theorem dX11_firstFallen_50 : decode cX11_firstFallen 50 = .ok (.ifCond .ne 61, 3) := by decide +kernel
theorem dX11_firstFallen_53 : decode cX11_firstFallen 53 = .ok (.aload_n 0, 1) := by decide +kernel
theorem dX11_firstFallen_54 : decode cX11_firstFallen 54 = .ok (.getfield 36, 3) := by decide +kernel
theorem dX11_firstFallen_57 : decode cX11_firstFallen 57 = .ok (.aload_n 0, 1) := by decide +kernel
theorem dX11_firstFallen_58 : decode cX11_firstFallen 58 = .ok (.getfield 59, 3) := by decide +kernel
theorem dX11_firstFallen_61 : decode cX11_firstFallen 61 = .ok (.iload_n 2, 1) := by decide +kernel
theorem dX11_firstFallen_62 : decode cX11_firstFallen 62 = .ok (.ifCond .eq 17, 3) := by decide +kernel
theorem dX11_firstFallen_65 : decode cX11_firstFallen 65 = .ok (.aload_n 0, 1) := by decide +kernel
theorem dX11_firstFallen_66 : decode cX11_firstFallen 66 = .ok (.getfield 36, 3) := by decide +kernel
theorem dX11_firstFallen_69 : decode cX11_firstFallen 69 = .ok (.aload_n 0, 1) := by decide +kernel
theorem dX11_firstFallen_70 : decode cX11_firstFallen 70 = .ok (.getfield 59, 3) := by decide +kernel
theorem dX11_firstFallen_73 : decode cX11_firstFallen 73 = .ok (.invokevirtual 216, 3) := by decide +kernel
theorem dX11_firstFallen_76 : decode cX11_firstFallen 76 = .ok (.goto 4, 3) := by decide +kernel
theorem dX11_firstFallen_79 : decode cX11_firstFallen 79 = .ok (.iconst 0, 1) := by decide +kernel
theorem dX11_firstFallen_80 : decode cX11_firstFallen 80 = .ok (.invokevirtual 241, 3) := by decide +kernel
theorem dX11_firstFallen_83 : decode cX11_firstFallen 83 = .ok (.pop, 1) := by decide +kernel
theorem dX11_firstFallen_84 : decode cX11_firstFallen 84 = .ok (.aload_n 0, 1) := by decide +kernel
theorem dX11_firstFallen_85 : decode cX11_firstFallen 85 = .ok (.getfield 59, 3) := by decide +kernel
theorem dX11_firstFallen_88 : decode cX11_firstFallen 88 = .ok (.iload_n 1, 1) := by decide +kernel
theorem dX11_firstFallen_89 : decode cX11_firstFallen 89 = .ok (.invokevirtual 142, 3) := by decide +kernel
theorem dX11_firstFallen_92 : decode cX11_firstFallen 92 = .ok (.ifCond .eq 13, 3) := by decide +kernel
theorem dX11_firstFallen_95 : decode cX11_firstFallen 95 = .ok (.aload_n 0, 1) := by decide +kernel
theorem dX11_firstFallen_96 : decode cX11_firstFallen 96 = .ok (.getfield 59, 3) := by decide +kernel
theorem dX11_firstFallen_99 : decode cX11_firstFallen 99 = .ok (.getfield 185, 3) := by decide +kernel
theorem dX11_firstFallen_102 : decode cX11_firstFallen 102 = .ok (.iconst 1, 1) := by decide +kernel
theorem dX11_firstFallen_103 : decode cX11_firstFallen 103 = .ok (.isub, 1) := by decide +kernel
theorem dX11_firstFallen_104 : decode cX11_firstFallen 104 = .ok (.ireturn, 1) := by decide +kernel
theorem dX11_firstFallen_105 : decode cX11_firstFallen 105 = .ok (.iinc 3 1, 3) := by decide +kernel
theorem dX11_firstFallen_108 : decode cX11_firstFallen 108 = .ok (.goto (-75), 3) := by decide +kernel
theorem dX11_firstFallen_111 : decode cX11_firstFallen 111 = .ok (.bipush (-3), 2) := by decide +kernel
theorem dX11_firstFallen_113 : decode cX11_firstFallen 113 = .ok (.ireturn, 1) := by decide +kernel
theorem dX11_bestFor_0 : decode cX11_bestFor 0 = .ok (.aload_n 0, 1) := by decide +kernel
theorem dX11_bestFor_1 : decode cX11_bestFor 1 = .ok (.iload_n 1, 1) := by decide +kernel
theorem dX11_bestFor_2 : decode cX11_bestFor 2 = .ok (.iload_n 2, 1) := by decide +kernel
theorem dX11_bestFor_3 : decode cX11_bestFor 3 = .ok (.iconst 0, 1) := by decide +kernel
theorem dX11_bestFor_4 : decode cX11_bestFor 4 = .ok (.invokevirtual 372, 3) := by decide +kernel
theorem dX11_bestFor_7 : decode cX11_bestFor 7 = .ok (.istore 4, 2) := by decide +kernel
theorem dX11_bestFor_9 : decode cX11_bestFor 9 = .ok (.iconst 0, 1) := by decide +kernel
theorem dX11_bestFor_10 : decode cX11_bestFor 10 = .ok (.istore 5, 2) := by decide +kernel
theorem dX11_bestFor_12 : decode cX11_bestFor 12 = .ok (.aload_n 0, 1) := by decide +kernel
theorem dX11_bestFor_13 : decode cX11_bestFor 13 = .ok (.bipush 16, 2) := by decide +kernel
theorem dX11_bestFor_15 : decode cX11_bestFor 15 = .ok (.invokevirtual 222, 3) := by decide +kernel
theorem dX11_bestFor_18 : decode cX11_bestFor 18 = .ok (.istore 6, 2) := by decide +kernel
theorem dX11_bestFor_20 : decode cX11_bestFor 20 = .ok (.iconst 1, 1) := by decide +kernel
theorem dX11_bestFor_21 : decode cX11_bestFor 21 = .ok (.istore 7, 2) := by decide +kernel
theorem dX11_bestFor_23 : decode cX11_bestFor 23 = .ok (.iload 7, 2) := by decide +kernel
theorem dX11_bestFor_25 : decode cX11_bestFor 25 = .ok (.iload_n 3, 1) := by decide +kernel
theorem dX11_bestFor_26 : decode cX11_bestFor 26 = .ok (.if_icmp .gt 41, 3) := by decide +kernel
theorem dX11_bestFor_29 : decode cX11_bestFor 29 = .ok (.aload_n 0, 1) := by decide +kernel
theorem dX11_bestFor_30 : decode cX11_bestFor 30 = .ok (.iload_n 1, 1) := by decide +kernel
theorem dX11_bestFor_31 : decode cX11_bestFor 31 = .ok (.iload_n 2, 1) := by decide +kernel
theorem dX11_bestFor_32 : decode cX11_bestFor 32 = .ok (.iload 7, 2) := by decide +kernel
theorem dX11_bestFor_34 : decode cX11_bestFor 34 = .ok (.invokevirtual 372, 3) := by decide +kernel
theorem dX11_bestFor_37 : decode cX11_bestFor 37 = .ok (.pop, 1) := by decide +kernel
theorem dX11_bestFor_38 : decode cX11_bestFor 38 = .ok (.aload_n 0, 1) := by decide +kernel
theorem dX11_bestFor_39 : decode cX11_bestFor 39 = .ok (.bipush 16, 2) := by decide +kernel
theorem dX11_bestFor_41 : decode cX11_bestFor 41 = .ok (.invokevirtual 222, 3) := by decide +kernel
theorem dX11_bestFor_44 : decode cX11_bestFor 44 = .ok (.istore 8, 2) := by decide +kernel
theorem dX11_bestFor_46 : decode cX11_bestFor 46 = .ok (.iload 8, 2) := by decide +kernel
theorem dX11_bestFor_48 : decode cX11_bestFor 48 = .ok (.iload 6, 2) := by decide +kernel
theorem dX11_bestFor_50 : decode cX11_bestFor 50 = .ok (.if_icmp .le 11, 3) := by decide +kernel
theorem dX11_bestFor_53 : decode cX11_bestFor 53 = .ok (.iload 8, 2) := by decide +kernel
theorem dX11_bestFor_55 : decode cX11_bestFor 55 = .ok (.istore 6, 2) := by decide +kernel
theorem dX11_bestFor_57 : decode cX11_bestFor 57 = .ok (.iload 7, 2) := by decide +kernel
theorem dX11_bestFor_59 : decode cX11_bestFor 59 = .ok (.istore 5, 2) := by decide +kernel
theorem dX11_bestFor_61 : decode cX11_bestFor 61 = .ok (.iinc 7 1, 3) := by decide +kernel
theorem dX11_bestFor_64 : decode cX11_bestFor 64 = .ok (.goto (-41), 3) := by decide +kernel
theorem dX11_bestFor_67 : decode cX11_bestFor 67 = .ok (.aload_n 0, 1) := by decide +kernel
theorem dX11_bestFor_68 : decode cX11_bestFor 68 = .ok (.iload_n 1, 1) := by decide +kernel
theorem dX11_bestFor_69 : decode cX11_bestFor 69 = .ok (.iload_n 2, 1) := by decide +kernel
theorem dX11_bestFor_70 : decode cX11_bestFor 70 = .ok (.iload 4, 2) := by decide +kernel
theorem dX11_bestFor_72 : decode cX11_bestFor 72 = .ok (.invokevirtual 372, 3) := by decide +kernel
theorem dX11_bestFor_75 : decode cX11_bestFor 75 = .ok (.pop, 1) := by decide +kernel
theorem dX11_bestFor_76 : decode cX11_bestFor 76 = .ok (.iload 5, 2) := by decide +kernel
theorem dX11_bestFor_78 : decode cX11_bestFor 78 = .ok (.ireturn, 1) := by decide +kernel
theorem dX11_countChains_0 : decode cX11_countChains 0 = .ok (.iconst 0, 1) := by decide +kernel
theorem dX11_countChains_1 : decode cX11_countChains 1 = .ok (.istore_n 1, 1) := by decide +kernel
theorem dX11_countChains_2 : decode cX11_countChains 2 = .ok (.iconst 0, 1) := by decide +kernel
theorem dX11_countChains_3 : decode cX11_countChains 3 = .ok (.istore_n 2, 1) := by decide +kernel
theorem dX11_countChains_4 : decode cX11_countChains 4 = .ok (.iload_n 2, 1) := by decide +kernel
theorem dX11_countChains_5 : decode cX11_countChains 5 = .ok (.aload_n 0, 1) := by decide +kernel
theorem dX11_countChains_6 : decode cX11_countChains 6 = .ok (.getfield 36, 3) := by decide +kernel
theorem dX11_countChains_9 : decode cX11_countChains 9 = .ok (.getfield 116, 3) := by decide +kernel
theorem dX11_countChains_12 : decode cX11_countChains 12 = .ok (.if_icmp .ge 29, 3) := by decide +kernel
theorem dX11_countChains_15 : decode cX11_countChains 15 = .ok (.aload_n 0, 1) := by decide +kernel
theorem dX11_countChains_16 : decode cX11_countChains 16 = .ok (.getfield 36, 3) := by decide +kernel
theorem dX11_countChains_19 : decode cX11_countChains 19 = .ok (.iload_n 2, 1) := by decide +kernel
theorem dX11_countChains_20 : decode cX11_countChains 20 = .ok (.invokevirtual 248, 3) := by decide +kernel
theorem dX11_countChains_23 : decode cX11_countChains 23 = .ok (.istore_n 3, 1) := by decide +kernel
theorem dX11_countChains_24 : decode cX11_countChains 24 = .ok (.iload_n 3, 1) := by decide +kernel
theorem dX11_countChains_25 : decode cX11_countChains 25 = .ok (.invokestatic 275, 3) := by decide +kernel
theorem dX11_countChains_28 : decode cX11_countChains 28 = .ok (.iload_n 2, 1) := by decide +kernel
theorem dX11_countChains_29 : decode cX11_countChains 29 = .ok (.if_icmp .ne 6, 3) := by decide +kernel
theorem dX11_countChains_32 : decode cX11_countChains 32 = .ok (.iinc 1 1, 3) := by decide +kernel
theorem dX11_countChains_35 : decode cX11_countChains 35 = .ok (.iinc 2 1, 3) := by decide +kernel
theorem dX11_countChains_38 : decode cX11_countChains 38 = .ok (.goto (-34), 3) := by decide +kernel
theorem dX11_countChains_41 : decode cX11_countChains 41 = .ok (.iload_n 1, 1) := by decide +kernel
theorem dX11_countChains_42 : decode cX11_countChains 42 = .ok (.ireturn, 1) := by decide +kernel
theorem dX11_planLength_0 : decode cX11_planLength 0 = .ok (.iconst 0, 1) := by decide +kernel
theorem dX11_planLength_1 : decode cX11_planLength 1 = .ok (.iload_n 1, 1) := by decide +kernel
theorem dX11_planLength_2 : decode cX11_planLength 2 = .ok (.aload_n 0, 1) := by decide +kernel
theorem dX11_planLength_3 : decode cX11_planLength 3 = .ok (.getfield 36, 3) := by decide +kernel
theorem dX11_planLength_6 : decode cX11_planLength 6 = .ok (.getfield 188, 3) := by decide +kernel
theorem dX11_planLength_9 : decode cX11_planLength 9 = .ok (.aload_n 0, 1) := by decide +kernel
theorem dX11_planLength_10 : decode cX11_planLength 10 = .ok (.getfield 36, 3) := by decide +kernel
theorem dX11_planLength_13 : decode cX11_planLength 13 = .ok (.getfield 127, 3) := by decide +kernel
theorem dX11_planLength_16 : decode cX11_planLength 16 = .ok (.getfield 185, 3) := by decide +kernel
theorem dX11_planLength_19 : decode cX11_planLength 19 = .ok (.isub, 1) := by decide +kernel
theorem dX11_planLength_20 : decode cX11_planLength 20 = .ok (.invokestatic 375, 3) := by decide +kernel
theorem dX11_planLength_23 : decode cX11_planLength 23 = .ok (.invokestatic 380, 3) := by decide +kernel
theorem dX11_planLength_26 : decode cX11_planLength 26 = .ok (.ireturn, 1) := by decide +kernel
theorem dX11_refusalOfActs_0 : decode cX11_refusalOfActs 0 = .ok (.iload_n 1, 1) := by decide +kernel
theorem dX11_refusalOfActs_1 : decode cX11_refusalOfActs 1 = .ok (.iconst 0, 1) := by decide +kernel
theorem dX11_refusalOfActs_2 : decode cX11_refusalOfActs 2 = .ok (.iconst 3, 1) := by decide +kernel
theorem dX11_refusalOfActs_3 : decode cX11_refusalOfActs 3 = .ok (.invokestatic 112, 3) := by decide +kernel
theorem dX11_refusalOfActs_6 : decode cX11_refusalOfActs 6 = .ok (.ifCond .eq 13, 3) := by decide +kernel
theorem dX11_refusalOfActs_9 : decode cX11_refusalOfActs 9 = .ok (.iload_n 2, 1) := by decide +kernel
theorem dX11_refusalOfActs_10 : decode cX11_refusalOfActs 10 = .ok (.iconst 0, 1) := by decide +kernel
theorem dX11_refusalOfActs_11 : decode cX11_refusalOfActs 11 = .ok (.bipush 20, 2) := by decide +kernel
theorem dX11_refusalOfActs_13 : decode cX11_refusalOfActs 13 = .ok (.invokestatic 112, 3) := by decide +kernel
theorem dX11_refusalOfActs_16 : decode cX11_refusalOfActs 16 = .ok (.ifCond .ne 5, 3) := by decide +kernel
theorem dX11_refusalOfActs_19 : decode cX11_refusalOfActs 19 = .ok (.iconst (-1), 1) := by decide +kernel
theorem dX11_refusalOfActs_20 : decode cX11_refusalOfActs 20 = .ok (.ireturn, 1) := by decide +kernel
theorem dX11_refusalOfActs_21 : decode cX11_refusalOfActs 21 = .ok (.aload_n 0, 1) := by decide +kernel
theorem dX11_refusalOfActs_22 : decode cX11_refusalOfActs 22 = .ok (.getfield 86, 3) := by decide +kernel
theorem dX11_refusalOfActs_25 : decode cX11_refusalOfActs 25 = .ok (.iload_n 1, 1) := by decide +kernel
theorem dX11_refusalOfActs_26 : decode cX11_refusalOfActs 26 = .ok (.iaload, 1) := by decide +kernel
theorem dX11_refusalOfActs_27 : decode cX11_refusalOfActs 27 = .ok (.iconst (-1), 1) := by decide +kernel
theorem dX11_refusalOfActs_28 : decode cX11_refusalOfActs 28 = .ok (.if_icmp .ne 6, 3) := by decide +kernel
theorem dX11_refusalOfActs_31 : decode cX11_refusalOfActs 31 = .ok (.bipush (-11), 2) := by decide +kernel
theorem dX11_refusalOfActs_33 : decode cX11_refusalOfActs 33 = .ok (.ireturn, 1) := by decide +kernel
theorem dX11_refusalOfActs_34 : decode cX11_refusalOfActs 34 = .ok (.aload_n 0, 1) := by decide +kernel
theorem dX11_refusalOfActs_35 : decode cX11_refusalOfActs 35 = .ok (.getfield 86, 3) := by decide +kernel
theorem dX11_refusalOfActs_38 : decode cX11_refusalOfActs 38 = .ok (.iload_n 1, 1) := by decide +kernel
theorem dX11_refusalOfActs_39 : decode cX11_refusalOfActs 39 = .ok (.iaload, 1) := by decide +kernel
theorem dX11_refusalOfActs_40 : decode cX11_refusalOfActs 40 = .ok (.ifCond .ne 7, 3) := by decide +kernel
theorem dX11_refusalOfActs_43 : decode cX11_refusalOfActs 43 = .ok (.iconst 0, 1) := by decide +kernel
theorem dX11_refusalOfActs_44 : decode cX11_refusalOfActs 44 = .ok (.goto 5, 3) := by decide +kernel
theorem dX11_refusalOfActs_47 : decode cX11_refusalOfActs 47 = .ok (.bipush (-13), 2) := by decide +kernel
theorem dX11_refusalOfActs_49 : decode cX11_refusalOfActs 49 = .ok (.ireturn, 1) := by decide +kernel
theorem dX11_put_0 : decode cX11_put 0 = .ok (.aload_n 0, 1) := by decide +kernel
theorem dX11_put_1 : decode cX11_put 1 = .ok (.getfield 96, 3) := by decide +kernel
theorem dX11_put_4 : decode cX11_put 4 = .ok (.iload_n 1, 1) := by decide +kernel
theorem dX11_put_5 : decode cX11_put 5 = .ok (.iload_n 2, 1) := by decide +kernel
theorem dX11_put_6 : decode cX11_put 6 = .ok (.iastore, 1) := by decide +kernel
theorem dX11_put_7 : decode cX11_put 7 = .ok (.aload_n 0, 1) := by decide +kernel
theorem dX11_put_8 : decode cX11_put 8 = .ok (.getfield 99, 3) := by decide +kernel
theorem dX11_put_11 : decode cX11_put 11 = .ok (.iload_n 1, 1) := by decide +kernel
theorem dX11_put_12 : decode cX11_put 12 = .ok (.iload_n 3, 1) := by decide +kernel
theorem dX11_put_13 : decode cX11_put 13 = .ok (.iastore, 1) := by decide +kernel
theorem dX11_put_14 : decode cX11_put 14 = .ok (.iconst 1, 1) := by decide +kernel
theorem dX11_put_15 : decode cX11_put 15 = .ok (.ireturn, 1) := by decide +kernel
theorem dX11_heldOn_0 : decode cX11_heldOn 0 = .ok (.aload_n 0, 1) := by decide +kernel
theorem dX11_heldOn_1 : decode cX11_heldOn 1 = .ok (.getfield 96, 3) := by decide +kernel
theorem dX11_heldOn_4 : decode cX11_heldOn 4 = .ok (.iload_n 1, 1) := by decide +kernel
theorem dX11_heldOn_5 : decode cX11_heldOn 5 = .ok (.iaload, 1) := by decide +kernel
theorem dX11_heldOn_6 : decode cX11_heldOn 6 = .ok (.ifCond .ne 21, 3) := by decide +kernel
theorem dX11_heldOn_9 : decode cX11_heldOn 9 = .ok (.aload_n 0, 1) := by decide +kernel
theorem dX11_heldOn_10 : decode cX11_heldOn 10 = .ok (.getfield 36, 3) := by decide +kernel
theorem dX11_heldOn_13 : decode cX11_heldOn 13 = .ok (.aload_n 0, 1) := by decide +kernel
theorem dX11_heldOn_14 : decode cX11_heldOn 14 = .ok (.getfield 99, 3) := by decide +kernel
theorem dX11_heldOn_17 : decode cX11_heldOn 17 = .ok (.iload_n 1, 1) := by decide +kernel
theorem dX11_heldOn_18 : decode cX11_heldOn 18 = .ok (.iaload, 1) := by decide +kernel
theorem dX11_heldOn_19 : decode cX11_heldOn 19 = .ok (.invokevirtual 123, 3) := by decide +kernel
theorem dX11_heldOn_22 : decode cX11_heldOn 22 = .ok (.ifCond .ne 5, 3) := by decide +kernel
theorem dX11_heldOn_25 : decode cX11_heldOn 25 = .ok (.iconst (-1), 1) := by decide +kernel
theorem dX11_heldOn_26 : decode cX11_heldOn 26 = .ok (.ireturn, 1) := by decide +kernel
theorem dX11_heldOn_27 : decode cX11_heldOn 27 = .ok (.aload_n 0, 1) := by decide +kernel
theorem dX11_heldOn_28 : decode cX11_heldOn 28 = .ok (.getfield 96, 3) := by decide +kernel
theorem dX11_heldOn_31 : decode cX11_heldOn 31 = .ok (.iload_n 1, 1) := by decide +kernel
theorem dX11_heldOn_32 : decode cX11_heldOn 32 = .ok (.iaload, 1) := by decide +kernel
theorem dX11_heldOn_33 : decode cX11_heldOn 33 = .ok (.ireturn, 1) := by decide +kernel
theorem dX12_init_0 : decode cX12_init 0 = .ok (.aload_n 0, 1) := by decide +kernel
theorem dX12_init_1 : decode cX12_init 1 = .ok (.invokespecial 1, 3) := by decide +kernel
theorem dX12_init_4 : decode cX12_init 4 = .ok (.aload_n 0, 1) := by decide +kernel
theorem dX12_init_5 : decode cX12_init 5 = .ok (.sipush 621, 3) := by decide +kernel
theorem dX12_init_8 : decode cX12_init 8 = .ok (.newarray .int, 2) := by decide +kernel
theorem dX12_init_10 : decode cX12_init 10 = .ok (.putfield 9, 3) := by decide +kernel
theorem dX12_init_13 : decode cX12_init 13 = .ok (.aload_n 0, 1) := by decide +kernel
theorem dX12_init_14 : decode cX12_init 14 = .ok (.sipush 621, 3) := by decide +kernel
theorem dX12_init_17 : decode cX12_init 17 = .ok (.newarray .int, 2) := by decide +kernel
theorem dX12_init_19 : decode cX12_init 19 = .ok (.putfield 13, 3) := by decide +kernel
theorem dX12_init_22 : decode cX12_init 22 = .ok (.aload_n 0, 1) := by decide +kernel
theorem dX12_init_23 : decode cX12_init 23 = .ok (.sipush 621, 3) := by decide +kernel
theorem dX12_init_26 : decode cX12_init 26 = .ok (.newarray .int, 2) := by decide +kernel
theorem dX12_init_28 : decode cX12_init 28 = .ok (.putfield 16, 3) := by decide +kernel
theorem dX12_init_31 : decode cX12_init 31 = .ok (.aload_n 0, 1) := by decide +kernel
theorem dX12_init_32 : decode cX12_init 32 = .ok (.sipush 200, 3) := by decide +kernel
theorem dX12_init_35 : decode cX12_init 35 = .ok (.newarray .int, 2) := by decide +kernel
theorem dX12_init_37 : decode cX12_init 37 = .ok (.putfield 19, 3) := by decide +kernel
theorem dX12_init_40 : decode cX12_init 40 = .ok (.aload_n 0, 1) := by decide +kernel
theorem dX12_init_41 : decode cX12_init 41 = .ok (.bipush 100, 2) := by decide +kernel
theorem dX12_init_43 : decode cX12_init 43 = .ok (.newarray .boolean, 2) := by decide +kernel
theorem dX12_init_45 : decode cX12_init 45 = .ok (.putfield 22, 3) := by decide +kernel
theorem dX12_init_48 : decode cX12_init 48 = .ok (.aload_n 0, 1) := by decide +kernel
theorem dX12_init_49 : decode cX12_init 49 = .ok (.sipush 2484, 3) := by decide +kernel
theorem dX12_init_52 : decode cX12_init 52 = .ok (.newarray .int, 2) := by decide +kernel
theorem dX12_init_54 : decode cX12_init 54 = .ok (.putfield 26, 3) := by decide +kernel
theorem dX12_init_57 : decode cX12_init 57 = .ok (.aload_n 0, 1) := by decide +kernel
theorem dX12_init_58 : decode cX12_init 58 = .ok (.sipush 621, 3) := by decide +kernel
theorem dX12_init_61 : decode cX12_init 61 = .ok (.newarray .int, 2) := by decide +kernel
theorem dX12_init_63 : decode cX12_init 63 = .ok (.putfield 29, 3) := by decide +kernel
theorem dX12_init_66 : decode cX12_init 66 = .ok (.aload_n 0, 1) := by decide +kernel
theorem dX12_init_67 : decode cX12_init 67 = .ok (.bipush 12, 2) := by decide +kernel
theorem dX12_init_69 : decode cX12_init 69 = .ok (.newarray .int, 2) := by decide +kernel
theorem dX12_init_71 : decode cX12_init 71 = .ok (.putfield 32, 3) := by decide +kernel
theorem dX12_init_74 : decode cX12_init 74 = .ok (.aload_n 0, 1) := by decide +kernel
theorem dX12_init_75 : decode cX12_init 75 = .ok (.iconst 4, 1) := by decide +kernel
theorem dX12_init_76 : decode cX12_init 76 = .ok (.newarray .int, 2) := by decide +kernel
theorem dX12_init_78 : decode cX12_init 78 = .ok (.dup, 1) := by decide +kernel
theorem dX12_init_79 : decode cX12_init 79 = .ok (.iconst 0, 1) := by decide +kernel
theorem dX12_init_80 : decode cX12_init 80 = .ok (.iconst (-1), 1) := by decide +kernel
theorem dX12_init_81 : decode cX12_init 81 = .ok (.iastore, 1) := by decide +kernel
theorem dX12_init_82 : decode cX12_init 82 = .ok (.dup, 1) := by decide +kernel
theorem dX12_init_83 : decode cX12_init 83 = .ok (.iconst 1, 1) := by decide +kernel
theorem dX12_init_84 : decode cX12_init 84 = .ok (.iconst (-1), 1) := by decide +kernel
theorem dX12_init_85 : decode cX12_init 85 = .ok (.iastore, 1) := by decide +kernel
theorem dX12_init_86 : decode cX12_init 86 = .ok (.dup, 1) := by decide +kernel
theorem dX12_init_87 : decode cX12_init 87 = .ok (.iconst 2, 1) := by decide +kernel
theorem dX12_init_88 : decode cX12_init 88 = .ok (.iconst (-1), 1) := by decide +kernel
theorem dX12_init_89 : decode cX12_init 89 = .ok (.iastore, 1) := by decide +kernel
theorem dX12_init_90 : decode cX12_init 90 = .ok (.dup, 1) := by decide +kernel
theorem dX12_init_91 : decode cX12_init 91 = .ok (.iconst 3, 1) := by decide +kernel
theorem dX12_init_92 : decode cX12_init 92 = .ok (.iconst (-1), 1) := by decide +kernel
theorem dX12_init_93 : decode cX12_init 93 = .ok (.iastore, 1) := by decide +kernel
theorem dX12_init_94 : decode cX12_init 94 = .ok (.putfield 35, 3) := by decide +kernel
theorem dX12_init_97 : decode cX12_init 97 = .ok (.aload_n 0, 1) := by decide +kernel
theorem dX12_init_98 : decode cX12_init 98 = .ok (.iconst 4, 1) := by decide +kernel
theorem dX12_init_99 : decode cX12_init 99 = .ok (.newarray .int, 2) := by decide +kernel
theorem dX12_init_101 : decode cX12_init 101 = .ok (.putfield 38, 3) := by decide +kernel
theorem dX12_init_104 : decode cX12_init 104 = .ok (.aload_n 0, 1) := by decide +kernel
theorem dX12_init_105 : decode cX12_init 105 = .ok (.sipush 160, 3) := by decide +kernel
theorem dX12_init_108 : decode cX12_init 108 = .ok (.newarray .long, 2) := by decide +kernel
theorem dX12_init_110 : decode cX12_init 110 = .ok (.putfield 41, 3) := by decide +kernel
theorem dX12_init_113 : decode cX12_init 113 = .ok (.aload_n 0, 1) := by decide +kernel
theorem dX12_init_114 : decode cX12_init 114 = .ok (.iconst 4, 1) := by decide +kernel
theorem dX12_init_115 : decode cX12_init 115 = .ok (.newarray .int, 2) := by decide +kernel
theorem dX12_init_117 : decode cX12_init 117 = .ok (.dup, 1) := by decide +kernel
theorem dX12_init_118 : decode cX12_init 118 = .ok (.iconst 0, 1) := by decide +kernel
theorem dX12_init_119 : decode cX12_init 119 = .ok (.iconst 2, 1) := by decide +kernel
theorem dX12_init_120 : decode cX12_init 120 = .ok (.iastore, 1) := by decide +kernel
theorem dX12_init_121 : decode cX12_init 121 = .ok (.dup, 1) := by decide +kernel
theorem dX12_init_122 : decode cX12_init 122 = .ok (.iconst 1, 1) := by decide +kernel
theorem dX12_init_123 : decode cX12_init 123 = .ok (.iconst 2, 1) := by decide +kernel
theorem dX12_init_124 : decode cX12_init 124 = .ok (.iastore, 1) := by decide +kernel
theorem dX12_init_125 : decode cX12_init 125 = .ok (.dup, 1) := by decide +kernel
theorem dX12_init_126 : decode cX12_init 126 = .ok (.iconst 2, 1) := by decide +kernel
theorem dX12_init_127 : decode cX12_init 127 = .ok (.iconst 2, 1) := by decide +kernel
theorem dX12_init_128 : decode cX12_init 128 = .ok (.iastore, 1) := by decide +kernel
theorem dX12_init_129 : decode cX12_init 129 = .ok (.dup, 1) := by decide +kernel
theorem dX12_init_130 : decode cX12_init 130 = .ok (.iconst 3, 1) := by decide +kernel
theorem dX12_init_131 : decode cX12_init 131 = .ok (.iconst 2, 1) := by decide +kernel
theorem dX12_init_132 : decode cX12_init 132 = .ok (.iastore, 1) := by decide +kernel
theorem dX12_init_133 : decode cX12_init 133 = .ok (.putfield 45, 3) := by decide +kernel
theorem dX12_init_136 : decode cX12_init 136 = .ok (.aload_n 0, 1) := by decide +kernel
theorem dX12_init_137 : decode cX12_init 137 = .ok (.iconst 4, 1) := by decide +kernel
theorem dX12_init_138 : decode cX12_init 138 = .ok (.newarray .int, 2) := by decide +kernel
theorem dX12_init_140 : decode cX12_init 140 = .ok (.putfield 48, 3) := by decide +kernel
theorem dX12_init_143 : decode cX12_init 143 = .ok (.aload_n 0, 1) := by decide +kernel
theorem dX12_init_144 : decode cX12_init 144 = .ok (.iconst 4, 1) := by decide +kernel
theorem dX12_init_145 : decode cX12_init 145 = .ok (.newarray .int, 2) := by decide +kernel
theorem dX12_init_147 : decode cX12_init 147 = .ok (.putfield 51, 3) := by decide +kernel
theorem dX12_init_150 : decode cX12_init 150 = .ok (.aload_n 0, 1) := by decide +kernel
theorem dX12_init_151 : decode cX12_init 151 = .ok (.bipush 30, 2) := by decide +kernel
theorem dX12_init_153 : decode cX12_init 153 = .ok (.newarray .int, 2) := by decide +kernel
theorem dX12_init_155 : decode cX12_init 155 = .ok (.putfield 54, 3) := by decide +kernel
theorem dX12_init_158 : decode cX12_init 158 = .ok (.aload_n 0, 1) := by decide +kernel
theorem dX12_init_159 : decode cX12_init 159 = .ok (.getfield 9, 3) := by decide +kernel
theorem dX12_init_162 : decode cX12_init 162 = .ok (.iconst 0, 1) := by decide +kernel
theorem dX12_init_163 : decode cX12_init 163 = .ok (.bipush 12, 2) := by decide +kernel
theorem dX12_init_165 : decode cX12_init 165 = .ok (.iastore, 1) := by decide +kernel
theorem dX12_init_166 : decode cX12_init 166 = .ok (.aload_n 0, 1) := by decide +kernel
theorem dX12_init_167 : decode cX12_init 167 = .ok (.getfield 9, 3) := by decide +kernel
theorem dX12_init_170 : decode cX12_init 170 = .ok (.iconst 3, 1) := by decide +kernel
theorem dX12_init_171 : decode cX12_init 171 = .ok (.iconst 1, 1) := by decide +kernel
theorem dX12_init_172 : decode cX12_init 172 = .ok (.iastore, 1) := by decide +kernel
theorem dX12_init_173 : decode cX12_init 173 = .ok (.iconst 0, 1) := by decide +kernel
theorem dX12_init_174 : decode cX12_init 174 = .ok (.istore_n 1, 1) := by decide +kernel
theorem dX12_init_175 : decode cX12_init 175 = .ok (.iload_n 1, 1) := by decide +kernel
theorem dX12_init_176 : decode cX12_init 176 = .ok (.bipush 16, 2) := by decide +kernel
theorem dX12_init_178 : decode cX12_init 178 = .ok (.if_icmp .ge 20, 3) := by decide +kernel
theorem dX12_init_181 : decode cX12_init 181 = .ok (.aload_n 0, 1) := by decide +kernel
theorem dX12_init_182 : decode cX12_init 182 = .ok (.getfield 9, 3) := by decide +kernel
theorem dX12_init_185 : decode cX12_init 185 = .ok (.bipush 7, 2) := by decide +kernel
theorem dX12_init_187 : decode cX12_init 187 = .ok (.iload_n 1, 1) := by decide +kernel
theorem dX12_init_188 : decode cX12_init 188 = .ok (.iadd, 1) := by decide +kernel
theorem dX12_init_189 : decode cX12_init 189 = .ok (.bipush 6, 2) := by decide +kernel
theorem dX12_init_191 : decode cX12_init 191 = .ok (.iastore, 1) := by decide +kernel
theorem dX12_init_192 : decode cX12_init 192 = .ok (.iinc 1 1, 3) := by decide +kernel
theorem dX12_init_195 : decode cX12_init 195 = .ok (.goto (-20), 3) := by decide +kernel
theorem dX12_init_198 : decode cX12_init 198 = .ok (.return_, 1) := by decide +kernel
theorem dX12_in_0 : decode cX12_in 0 = .ok (.iload_n 0, 1) := by decide +kernel
theorem dX12_in_1 : decode cX12_in 1 = .ok (.iload_n 1, 1) := by decide +kernel
theorem dX12_in_2 : decode cX12_in 2 = .ok (.if_icmp .lt 12, 3) := by decide +kernel
theorem dX12_in_5 : decode cX12_in 5 = .ok (.iload_n 0, 1) := by decide +kernel
theorem dX12_in_6 : decode cX12_in 6 = .ok (.iload_n 2, 1) := by decide +kernel
theorem dX12_in_7 : decode cX12_in 7 = .ok (.if_icmp .gt 7, 3) := by decide +kernel
theorem dX12_in_10 : decode cX12_in 10 = .ok (.iconst 1, 1) := by decide +kernel
theorem dX12_in_11 : decode cX12_in 11 = .ok (.goto 4, 3) := by decide +kernel
theorem dX12_in_14 : decode cX12_in 14 = .ok (.iconst 0, 1) := by decide +kernel
theorem dX12_in_15 : decode cX12_in 15 = .ok (.ireturn, 1) := by decide +kernel
theorem dX12_copyAll_0 : decode cX12_copyAll 0 = .ok (.iconst 0, 1) := by decide +kernel
theorem dX12_copyAll_1 : decode cX12_copyAll 1 = .ok (.istore_n 2, 1) := by decide +kernel
theorem dX12_copyAll_2 : decode cX12_copyAll 2 = .ok (.iload_n 2, 1) := by decide +kernel
theorem dX12_copyAll_3 : decode cX12_copyAll 3 = .ok (.sipush 621, 3) := by decide +kernel
theorem dX12_copyAll_6 : decode cX12_copyAll 6 = .ok (.if_icmp .ge 15, 3) := by decide +kernel
theorem dX12_copyAll_9 : decode cX12_copyAll 9 = .ok (.aload_n 1, 1) := by decide +kernel
theorem dX12_copyAll_10 : decode cX12_copyAll 10 = .ok (.iload_n 2, 1) := by decide +kernel
theorem dX12_copyAll_11 : decode cX12_copyAll 11 = .ok (.aload_n 0, 1) := by decide +kernel
theorem dX12_copyAll_12 : decode cX12_copyAll 12 = .ok (.iload_n 2, 1) := by decide +kernel
theorem dX12_copyAll_13 : decode cX12_copyAll 13 = .ok (.iaload, 1) := by decide +kernel
theorem dX12_copyAll_14 : decode cX12_copyAll 14 = .ok (.iastore, 1) := by decide +kernel
theorem dX12_copyAll_15 : decode cX12_copyAll 15 = .ok (.iinc 2 1, 3) := by decide +kernel
theorem dX12_copyAll_18 : decode cX12_copyAll 18 = .ok (.goto (-16), 3) := by decide +kernel
theorem dX12_copyAll_21 : decode cX12_copyAll 21 = .ok (.return_, 1) := by decide +kernel
theorem dX12_thinks_0 : decode cX12_thinks 0 = .ok (.aload_n 0, 1) := by decide +kernel
theorem dX12_thinks_1 : decode cX12_thinks 1 = .ok (.getfield 9, 3) := by decide +kernel
theorem dX12_thinks_4 : decode cX12_thinks 4 = .ok (.aload_n 0, 1) := by decide +kernel
theorem dX12_thinks_5 : decode cX12_thinks 5 = .ok (.getfield 16, 3) := by decide +kernel
theorem dX12_thinks_8 : decode cX12_thinks 8 = .ok (.invokestatic 57, 3) := by decide +kernel
theorem dX12_thinks_11 : decode cX12_thinks 11 = .ok (.return_, 1) := by decide +kernel
theorem dX12_putsBack_0 : decode cX12_putsBack 0 = .ok (.aload_n 0, 1) := by decide +kernel
theorem dX12_putsBack_1 : decode cX12_putsBack 1 = .ok (.getfield 16, 3) := by decide +kernel
theorem dX12_putsBack_4 : decode cX12_putsBack 4 = .ok (.aload_n 0, 1) := by decide +kernel
theorem dX12_putsBack_5 : decode cX12_putsBack 5 = .ok (.getfield 9, 3) := by decide +kernel
theorem dX12_putsBack_8 : decode cX12_putsBack 8 = .ok (.invokestatic 57, 3) := by decide +kernel
theorem dX12_putsBack_11 : decode cX12_putsBack 11 = .ok (.return_, 1) := by decide +kernel
theorem dX12_becomes_0 : decode cX12_becomes 0 = .ok (.aload_n 0, 1) := by decide +kernel
theorem dX12_becomes_1 : decode cX12_becomes 1 = .ok (.getfield 9, 3) := by decide +kernel
theorem dX12_becomes_4 : decode cX12_becomes 4 = .ok (.iload_n 1, 1) := by decide +kernel
theorem dX12_becomes_5 : decode cX12_becomes 5 = .ok (.iaload, 1) := by decide +kernel
theorem dX12_becomes_6 : decode cX12_becomes 6 = .ok (.istore_n 3, 1) := by decide +kernel
theorem dX12_becomes_7 : decode cX12_becomes 7 = .ok (.aload_n 0, 1) := by decide +kernel
theorem dX12_becomes_8 : decode cX12_becomes 8 = .ok (.getfield 9, 3) := by decide +kernel
theorem dX12_becomes_11 : decode cX12_becomes 11 = .ok (.iload_n 1, 1) := by decide +kernel
theorem dX12_becomes_12 : decode cX12_becomes 12 = .ok (.iload_n 2, 1) := by decide +kernel
theorem dX12_becomes_13 : decode cX12_becomes 13 = .ok (.iastore, 1) := by decide +kernel
theorem dX12_becomes_14 : decode cX12_becomes 14 = .ok (.iload_n 3, 1) := by decide +kernel
theorem dX12_becomes_15 : decode cX12_becomes 15 = .ok (.ireturn, 1) := by decide +kernel
theorem dX12_isPiece_0 : decode cX12_isPiece 0 = .ok (.iload_n 1, 1) := by decide +kernel
theorem dX12_isPiece_1 : decode cX12_isPiece 1 = .ok (.iconst 0, 1) := by decide +kernel
theorem dX12_isPiece_2 : decode cX12_isPiece 2 = .ok (.aload_n 0, 1) := by decide +kernel
theorem dX12_isPiece_3 : decode cX12_isPiece 3 = .ok (.getfield 9, 3) := by decide +kernel
theorem dX12_isPiece_6 : decode cX12_isPiece 6 = .ok (.iconst 4, 1) := by decide +kernel
theorem dX12_isPiece_7 : decode cX12_isPiece 7 = .ok (.iaload, 1) := by decide +kernel
theorem dX12_isPiece_8 : decode cX12_isPiece 8 = .ok (.iconst 1, 1) := by decide +kernel
theorem dX12_isPiece_9 : decode cX12_isPiece 9 = .ok (.isub, 1) := by decide +kernel
theorem dX12_isPiece_10 : decode cX12_isPiece 10 = .ok (.invokestatic 61, 3) := by decide +kernel
theorem dX12_isPiece_13 : decode cX12_isPiece 13 = .ok (.ireturn, 1) := by decide +kernel
theorem dX12_isRoom_0 : decode cX12_isRoom 0 = .ok (.iload_n 0, 1) := by decide +kernel
theorem dX12_isRoom_1 : decode cX12_isRoom 1 = .ok (.iconst 0, 1) := by decide +kernel
theorem dX12_isRoom_2 : decode cX12_isRoom 2 = .ok (.iconst 5, 1) := by decide +kernel
theorem dX12_isRoom_3 : decode cX12_isRoom 3 = .ok (.invokestatic 61, 3) := by decide +kernel
theorem dX12_isRoom_6 : decode cX12_isRoom 6 = .ok (.ireturn, 1) := by decide +kernel
theorem dX12_isFour_0 : decode cX12_isFour 0 = .ok (.iload_n 0, 1) := by decide +kernel
theorem dX12_isFour_1 : decode cX12_isFour 1 = .ok (.iconst 0, 1) := by decide +kernel
theorem dX12_isFour_2 : decode cX12_isFour 2 = .ok (.iconst 3, 1) := by decide +kernel
theorem dX12_isFour_3 : decode cX12_isFour 3 = .ok (.invokestatic 61, 3) := by decide +kernel
theorem dX12_isFour_6 : decode cX12_isFour 6 = .ok (.ireturn, 1) := by decide +kernel
theorem dX12_of_0 : decode cX12_of 0 = .ok (.aload_n 0, 1) := by decide +kernel
theorem dX12_of_1 : decode cX12_of 1 = .ok (.getfield 9, 3) := by decide +kernel
theorem dX12_of_4 : decode cX12_of 4 = .ok (.bipush 35, 2) := by decide +kernel
theorem dX12_of_6 : decode cX12_of 6 = .ok (.iconst 5, 1) := by decide +kernel
theorem dX12_of_7 : decode cX12_of 7 = .ok (.iload_n 1, 1) := by decide +kernel
theorem dX12_of_8 : decode cX12_of 8 = .ok (.imul, 1) := by decide +kernel
theorem dX12_of_9 : decode cX12_of 9 = .ok (.iadd, 1) := by decide +kernel
theorem dX12_of_10 : decode cX12_of 10 = .ok (.iload_n 2, 1) := by decide +kernel
theorem dX12_of_11 : decode cX12_of 11 = .ok (.iadd, 1) := by decide +kernel
theorem dX12_of_12 : decode cX12_of 12 = .ok (.iaload, 1) := by decide +kernel
theorem dX12_of_13 : decode cX12_of 13 = .ok (.ireturn, 1) := by decide +kernel
theorem dX12_put_0 : decode cX12_put 0 = .ok (.aload_n 0, 1) := by decide +kernel
theorem dX12_put_1 : decode cX12_put 1 = .ok (.getfield 9, 3) := by decide +kernel
theorem dX12_put_4 : decode cX12_put 4 = .ok (.bipush 35, 2) := by decide +kernel
theorem dX12_put_6 : decode cX12_put 6 = .ok (.iconst 5, 1) := by decide +kernel
theorem dX12_put_7 : decode cX12_put 7 = .ok (.iload_n 1, 1) := by decide +kernel
theorem dX12_put_8 : decode cX12_put 8 = .ok (.imul, 1) := by decide +kernel
theorem dX12_put_9 : decode cX12_put 9 = .ok (.iadd, 1) := by decide +kernel
theorem dX12_put_10 : decode cX12_put 10 = .ok (.iload_n 2, 1) := by decide +kernel
theorem dX12_put_11 : decode cX12_put 11 = .ok (.iadd, 1) := by decide +kernel
theorem dX12_put_12 : decode cX12_put 12 = .ok (.iload_n 3, 1) := by decide +kernel
theorem dX12_put_13 : decode cX12_put 13 = .ok (.iastore, 1) := by decide +kernel
theorem dX12_put_14 : decode cX12_put 14 = .ok (.return_, 1) := by decide +kernel
theorem dX12_isOver_0 : decode cX12_isOver 0 = .ok (.aload_n 0, 1) := by decide +kernel
theorem dX12_isOver_1 : decode cX12_isOver 1 = .ok (.getfield 9, 3) := by decide +kernel
theorem dX12_isOver_4 : decode cX12_isOver 4 = .ok (.iconst 1, 1) := by decide +kernel
theorem dX12_isOver_5 : decode cX12_isOver 5 = .ok (.iaload, 1) := by decide +kernel
theorem dX12_isOver_6 : decode cX12_isOver 6 = .ok (.aload_n 0, 1) := by decide +kernel
theorem dX12_isOver_7 : decode cX12_isOver 7 = .ok (.getfield 9, 3) := by decide +kernel
theorem dX12_isOver_10 : decode cX12_isOver 10 = .ok (.iconst 0, 1) := by decide +kernel
theorem dX12_isOver_11 : decode cX12_isOver 11 = .ok (.iaload, 1) := by decide +kernel
theorem dX12_isOver_12 : decode cX12_isOver 12 = .ok (.if_icmp .lt 7, 3) := by decide +kernel
theorem dX12_isOver_15 : decode cX12_isOver 15 = .ok (.iconst 1, 1) := by decide +kernel
theorem dX12_isOver_16 : decode cX12_isOver 16 = .ok (.goto 4, 3) := by decide +kernel
theorem dX12_isOver_19 : decode cX12_isOver 19 = .ok (.iconst 0, 1) := by decide +kernel
theorem dX12_isOver_20 : decode cX12_isOver 20 = .ok (.ireturn, 1) := by decide +kernel
theorem dX12_bits_0 : decode cX12_bits 0 = .ok (.iconst 0, 1) := by decide +kernel
theorem dX12_bits_1 : decode cX12_bits 1 = .ok (.istore_n 1, 1) := by decide +kernel
theorem dX12_bits_2 : decode cX12_bits 2 = .ok (.iload_n 0, 1) := by decide +kernel
theorem dX12_bits_3 : decode cX12_bits 3 = .ok (.istore_n 2, 1) := by decide +kernel
theorem dX12_bits_4 : decode cX12_bits 4 = .ok (.iload_n 2, 1) := by decide +kernel
theorem dX12_bits_5 : decode cX12_bits 5 = .ok (.ifCond .eq 15, 3) := by decide +kernel
theorem dX12_bits_8 : decode cX12_bits 8 = .ok (.iinc 1 1, 3) := by decide +kernel
theorem dX12_bits_11 : decode cX12_bits 11 = .ok (.iload_n 2, 1) := by decide +kernel
theorem dX12_bits_12 : decode cX12_bits 12 = .ok (.iload_n 2, 1) := by decide +kernel
theorem dX12_bits_13 : decode cX12_bits 13 = .ok (.iconst 1, 1) := by decide +kernel
theorem dX12_bits_14 : decode cX12_bits 14 = .ok (.isub, 1) := by decide +kernel
theorem dX12_bits_15 : decode cX12_bits 15 = .ok (.iand, 1) := by decide +kernel
theorem dX12_bits_16 : decode cX12_bits 16 = .ok (.istore_n 2, 1) := by decide +kernel
theorem dX12_bits_17 : decode cX12_bits 17 = .ok (.goto (-13), 3) := by decide +kernel
theorem dX12_bits_20 : decode cX12_bits 20 = .ok (.iload_n 1, 1) := by decide +kernel
theorem dX12_bits_21 : decode cX12_bits 21 = .ok (.ireturn, 1) := by decide +kernel
theorem dX12_sayingOf_0 : decode cX12_sayingOf 0 = .ok (.iload_n 1, 1) := by decide +kernel
theorem dX12_sayingOf_1 : decode cX12_sayingOf 1 = .ok (.bipush 16, 2) := by decide +kernel
theorem dX12_sayingOf_3 : decode cX12_sayingOf 3 = .ok (.if_icmp .ge 15, 3) := by decide +kernel
theorem dX12_sayingOf_6 : decode cX12_sayingOf 6 = .ok (.aload_n 0, 1) := by decide +kernel
theorem dX12_sayingOf_7 : decode cX12_sayingOf 7 = .ok (.getfield 9, 3) := by decide +kernel
theorem dX12_sayingOf_10 : decode cX12_sayingOf 10 = .ok (.bipush 7, 2) := by decide +kernel
theorem dX12_sayingOf_12 : decode cX12_sayingOf 12 = .ok (.iload_n 1, 1) := by decide +kernel
theorem dX12_sayingOf_13 : decode cX12_sayingOf 13 = .ok (.iadd, 1) := by decide +kernel
theorem dX12_sayingOf_14 : decode cX12_sayingOf 14 = .ok (.iaload, 1) := by decide +kernel
theorem dX12_sayingOf_15 : decode cX12_sayingOf 15 = .ok (.goto 4, 3) := by decide +kernel
theorem dX12_sayingOf_18 : decode cX12_sayingOf 18 = .ok (.iconst 0, 1) := by decide +kernel
theorem dX12_sayingOf_19 : decode cX12_sayingOf 19 = .ok (.ireturn, 1) := by decide +kernel
theorem dX12_word_0 : decode cX12_word 0 = .ok (.aload_n 0, 1) := by decide +kernel
theorem dX12_word_1 : decode cX12_word 1 = .ok (.aload_n 0, 1) := by decide +kernel
theorem dX12_word_2 : decode cX12_word 2 = .ok (.getfield 9, 3) := by decide +kernel
theorem dX12_word_5 : decode cX12_word 5 = .ok (.iconst 1, 1) := by decide +kernel
theorem dX12_word_6 : decode cX12_word 6 = .ok (.iaload, 1) := by decide +kernel
theorem dX12_word_7 : decode cX12_word 7 = .ok (.invokevirtual 65, 3) := by decide +kernel
theorem dX12_word_10 : decode cX12_word 10 = .ok (.iconst 4, 1) := by decide +kernel
theorem dX12_word_11 : decode cX12_word 11 = .ok (.idiv, 1) := by decide +kernel
theorem dX12_word_12 : decode cX12_word 12 = .ok (.ireturn, 1) := by decide +kernel
theorem dX12_hush_0 : decode cX12_hush 0 = .ok (.aload_n 0, 1) := by decide +kernel
theorem dX12_hush_1 : decode cX12_hush 1 = .ok (.aload_n 0, 1) := by decide +kernel
theorem dX12_hush_2 : decode cX12_hush 2 = .ok (.getfield 9, 3) := by decide +kernel
theorem dX12_hush_5 : decode cX12_hush 5 = .ok (.iconst 1, 1) := by decide +kernel
theorem dX12_hush_6 : decode cX12_hush 6 = .ok (.iaload, 1) := by decide +kernel
theorem dX12_hush_7 : decode cX12_hush 7 = .ok (.invokevirtual 65, 3) := by decide +kernel
theorem dX12_hush_10 : decode cX12_hush 10 = .ok (.iconst 4, 1) := by decide +kernel
theorem dX12_hush_11 : decode cX12_hush 11 = .ok (.irem, 1) := by decide +kernel
theorem dX12_hush_12 : decode cX12_hush 12 = .ok (.ireturn, 1) := by decide +kernel
theorem dX12_leansBy_0 : decode cX12_leansBy 0 = .ok (.iconst 2, 1) := by decide +kernel
theorem dX12_leansBy_1 : decode cX12_leansBy 1 = .ok (.iload_n 1, 1) := by decide +kernel
theorem dX12_leansBy_2 : decode cX12_leansBy 2 = .ok (.iadd, 1) := by decide +kernel
theorem dX12_leansBy_3 : decode cX12_leansBy 3 = .ok (.iload_n 2, 1) := by decide +kernel
theorem dX12_leansBy_4 : decode cX12_leansBy 4 = .ok (.isub, 1) := by decide +kernel
theorem dX12_leansBy_5 : decode cX12_leansBy 5 = .ok (.istore 4, 2) := by decide +kernel
theorem dX12_leansBy_7 : decode cX12_leansBy 7 = .ok (.iload 4, 2) := by decide +kernel
theorem dX12_leansBy_9 : decode cX12_leansBy 9 = .ok (.ifCond .ge 7, 3) := by decide +kernel
theorem dX12_leansBy_12 : decode cX12_leansBy 12 = .ok (.iconst 0, 1) := by decide +kernel
theorem dX12_leansBy_13 : decode cX12_leansBy 13 = .ok (.goto 5, 3) := by decide +kernel
theorem dX12_leansBy_16 : decode cX12_leansBy 16 = .ok (.iload 4, 2) := by decide +kernel
theorem dX12_leansBy_18 : decode cX12_leansBy 18 = .ok (.istore 4, 2) := by decide +kernel
theorem dX12_leansBy_20 : decode cX12_leansBy 20 = .ok (.iload_n 0, 1) := by decide +kernel
theorem dX12_leansBy_21 : decode cX12_leansBy 21 = .ok (.tableswitch 71 1 5 #[35, 37, 43, 54, 57], 35) := by decide +kernel
theorem dX12_leansBy_56 : decode cX12_leansBy 56 = .ok (.iconst 1, 1) := by decide +kernel
theorem dX12_leansBy_57 : decode cX12_leansBy 57 = .ok (.ireturn, 1) := by decide +kernel
theorem dX12_leansBy_58 : decode cX12_leansBy 58 = .ok (.iconst 4, 1) := by decide +kernel
theorem dX12_leansBy_59 : decode cX12_leansBy 59 = .ok (.iconst 2, 1) := by decide +kernel
theorem dX12_leansBy_60 : decode cX12_leansBy 60 = .ok (.iload_n 1, 1) := by decide +kernel
theorem dX12_leansBy_61 : decode cX12_leansBy 61 = .ok (.imul, 1) := by decide +kernel
theorem dX12_leansBy_62 : decode cX12_leansBy 62 = .ok (.iadd, 1) := by decide +kernel
theorem dX12_leansBy_63 : decode cX12_leansBy 63 = .ok (.ireturn, 1) := by decide +kernel
theorem dX12_leansBy_64 : decode cX12_leansBy 64 = .ok (.iconst 4, 1) := by decide +kernel
theorem dX12_leansBy_65 : decode cX12_leansBy 65 = .ok (.iconst 2, 1) := by decide +kernel
theorem dX12_leansBy_66 : decode cX12_leansBy 66 = .ok (.iload_n 1, 1) := by decide +kernel
theorem dX12_leansBy_67 : decode cX12_leansBy 67 = .ok (.imul, 1) := by decide +kernel
theorem dX12_leansBy_68 : decode cX12_leansBy 68 = .ok (.iadd, 1) := by decide +kernel
theorem dX12_leansBy_69 : decode cX12_leansBy 69 = .ok (.iload_n 3, 1) := by decide +kernel
theorem dX12_leansBy_70 : decode cX12_leansBy 70 = .ok (.bipush 6, 2) := by decide +kernel
theorem dX12_leansBy_72 : decode cX12_leansBy 72 = .ok (.idiv, 1) := by decide +kernel
theorem dX12_leansBy_73 : decode cX12_leansBy 73 = .ok (.iadd, 1) := by decide +kernel
theorem dX12_leansBy_74 : decode cX12_leansBy 74 = .ok (.ireturn, 1) := by decide +kernel
theorem dX12_leansBy_75 : decode cX12_leansBy 75 = .ok (.iload 4, 2) := by decide +kernel
theorem dX12_leansBy_77 : decode cX12_leansBy 77 = .ok (.ireturn, 1) := by decide +kernel
theorem dX12_leansBy_78 : decode cX12_leansBy 78 = .ok (.iload_n 3, 1) := by decide +kernel
theorem dX12_leansBy_79 : decode cX12_leansBy 79 = .ok (.iconst 2, 1) := by decide +kernel
theorem dX12_leansBy_80 : decode cX12_leansBy 80 = .ok (.irem, 1) := by decide +kernel
theorem dX12_leansBy_81 : decode cX12_leansBy 81 = .ok (.iconst 1, 1) := by decide +kernel
theorem dX12_leansBy_82 : decode cX12_leansBy 82 = .ok (.if_icmp .ne 7, 3) := by decide +kernel
theorem dX12_leansBy_85 : decode cX12_leansBy 85 = .ok (.iconst 0, 1) := by decide +kernel
theorem dX12_leansBy_86 : decode cX12_leansBy 86 = .ok (.goto 5, 3) := by decide +kernel
theorem dX12_leansBy_89 : decode cX12_leansBy 89 = .ok (.iload 4, 2) := by decide +kernel
theorem dX12_leansBy_91 : decode cX12_leansBy 91 = .ok (.ireturn, 1) := by decide +kernel
theorem dX12_leansBy_92 : decode cX12_leansBy 92 = .ok (.iconst 2, 1) := by decide +kernel
theorem dX12_leansBy_93 : decode cX12_leansBy 93 = .ok (.iload_n 1, 1) := by decide +kernel
theorem dX12_leansBy_94 : decode cX12_leansBy 94 = .ok (.iadd, 1) := by decide +kernel
theorem dX12_leansBy_95 : decode cX12_leansBy 95 = .ok (.ireturn, 1) := by decide +kernel
theorem dX12_bearsBy_0 : decode cX12_bearsBy 0 = .ok (.bipush 40, 2) := by decide +kernel
theorem dX12_bearsBy_2 : decode cX12_bearsBy 2 = .ok (.iconst 2, 1) := by decide +kernel
theorem dX12_bearsBy_3 : decode cX12_bearsBy 3 = .ok (.iload_n 1, 1) := by decide +kernel
theorem dX12_bearsBy_4 : decode cX12_bearsBy 4 = .ok (.imul, 1) := by decide +kernel
theorem dX12_bearsBy_5 : decode cX12_bearsBy 5 = .ok (.isub, 1) := by decide +kernel
theorem dX12_bearsBy_6 : decode cX12_bearsBy 6 = .ok (.istore_n 3, 1) := by decide +kernel
theorem dX12_bearsBy_7 : decode cX12_bearsBy 7 = .ok (.iload_n 0, 1) := by decide +kernel
theorem dX12_bearsBy_8 : decode cX12_bearsBy 8 = .ok (.tableswitch 63 1 5 #[36, 39, 44, 51, 56], 36) := by decide +kernel
theorem dX12_bearsBy_44 : decode cX12_bearsBy 44 = .ok (.bipush 95, 2) := by decide +kernel
theorem dX12_bearsBy_46 : decode cX12_bearsBy 46 = .ok (.ireturn, 1) := by decide +kernel
theorem dX12_bearsBy_47 : decode cX12_bearsBy 47 = .ok (.iload_n 3, 1) := by decide +kernel
theorem dX12_bearsBy_48 : decode cX12_bearsBy 48 = .ok (.bipush 8, 2) := by decide +kernel
theorem dX12_bearsBy_50 : decode cX12_bearsBy 50 = .ok (.isub, 1) := by decide +kernel
theorem dX12_bearsBy_51 : decode cX12_bearsBy 51 = .ok (.ireturn, 1) := by decide +kernel
theorem dX12_bearsBy_52 : decode cX12_bearsBy 52 = .ok (.iload_n 3, 1) := by decide +kernel
theorem dX12_bearsBy_53 : decode cX12_bearsBy 53 = .ok (.bipush 8, 2) := by decide +kernel
theorem dX12_bearsBy_55 : decode cX12_bearsBy 55 = .ok (.isub, 1) := by decide +kernel
theorem dX12_bearsBy_56 : decode cX12_bearsBy 56 = .ok (.iload_n 1, 1) := by decide +kernel
theorem dX12_bearsBy_57 : decode cX12_bearsBy 57 = .ok (.iadd, 1) := by decide +kernel
theorem dX12_bearsBy_58 : decode cX12_bearsBy 58 = .ok (.ireturn, 1) := by decide +kernel
theorem dX12_bearsBy_59 : decode cX12_bearsBy 59 = .ok (.iload_n 3, 1) := by decide +kernel
theorem dX12_bearsBy_60 : decode cX12_bearsBy 60 = .ok (.bipush 10, 2) := by decide +kernel
theorem dX12_bearsBy_62 : decode cX12_bearsBy 62 = .ok (.iadd, 1) := by decide +kernel
theorem dX12_bearsBy_63 : decode cX12_bearsBy 63 = .ok (.ireturn, 1) := by decide +kernel
theorem dX12_bearsBy_64 : decode cX12_bearsBy 64 = .ok (.iload_n 3, 1) := by decide +kernel
theorem dX12_bearsBy_65 : decode cX12_bearsBy 65 = .ok (.bipush 10, 2) := by decide +kernel
theorem dX12_bearsBy_67 : decode cX12_bearsBy 67 = .ok (.iadd, 1) := by decide +kernel
theorem dX12_bearsBy_68 : decode cX12_bearsBy 68 = .ok (.iload_n 2, 1) := by decide +kernel
theorem dX12_bearsBy_69 : decode cX12_bearsBy 69 = .ok (.iadd, 1) := by decide +kernel
theorem dX12_bearsBy_70 : decode cX12_bearsBy 70 = .ok (.ireturn, 1) := by decide +kernel
theorem dX12_bearsBy_71 : decode cX12_bearsBy 71 = .ok (.iload_n 3, 1) := by decide +kernel
theorem dX12_bearsBy_72 : decode cX12_bearsBy 72 = .ok (.ireturn, 1) := by decide +kernel
theorem dX12_leansOf_0 : decode cX12_leansOf 0 = .ok (.aload_n 0, 1) := by decide +kernel
theorem dX12_leansOf_1 : decode cX12_leansOf 1 = .ok (.iload_n 1, 1) := by decide +kernel
theorem dX12_leansOf_2 : decode cX12_leansOf 2 = .ok (.iconst 0, 1) := by decide +kernel
theorem dX12_leansOf_3 : decode cX12_leansOf 3 = .ok (.invokevirtual 69, 3) := by decide +kernel
theorem dX12_leansOf_6 : decode cX12_leansOf 6 = .ok (.aload_n 0, 1) := by decide +kernel
theorem dX12_leansOf_7 : decode cX12_leansOf 7 = .ok (.invokevirtual 73, 3) := by decide +kernel
theorem dX12_leansOf_10 : decode cX12_leansOf 10 = .ok (.aload_n 0, 1) := by decide +kernel
theorem dX12_leansOf_11 : decode cX12_leansOf 11 = .ok (.invokevirtual 77, 3) := by decide +kernel
theorem dX12_leansOf_14 : decode cX12_leansOf 14 = .ok (.aload_n 0, 1) := by decide +kernel
theorem dX12_leansOf_15 : decode cX12_leansOf 15 = .ok (.getfield 9, 3) := by decide +kernel
theorem dX12_leansOf_18 : decode cX12_leansOf 18 = .ok (.iconst 1, 1) := by decide +kernel
theorem dX12_leansOf_19 : decode cX12_leansOf 19 = .ok (.iaload, 1) := by decide +kernel
theorem dX12_leansOf_20 : decode cX12_leansOf 20 = .ok (.invokestatic 80, 3) := by decide +kernel
theorem dX12_leansOf_23 : decode cX12_leansOf 23 = .ok (.ireturn, 1) := by decide +kernel
theorem dX12_bearsOf_0 : decode cX12_bearsOf 0 = .ok (.aload_n 0, 1) := by decide +kernel
theorem dX12_bearsOf_1 : decode cX12_bearsOf 1 = .ok (.iload_n 1, 1) := by decide +kernel
theorem dX12_bearsOf_2 : decode cX12_bearsOf 2 = .ok (.iconst 0, 1) := by decide +kernel
theorem dX12_bearsOf_3 : decode cX12_bearsOf 3 = .ok (.invokevirtual 69, 3) := by decide +kernel
theorem dX12_bearsOf_6 : decode cX12_bearsOf 6 = .ok (.aload_n 0, 1) := by decide +kernel
theorem dX12_bearsOf_7 : decode cX12_bearsOf 7 = .ok (.iload_n 1, 1) := by decide +kernel
theorem dX12_bearsOf_8 : decode cX12_bearsOf 8 = .ok (.iconst 2, 1) := by decide +kernel
theorem dX12_bearsOf_9 : decode cX12_bearsOf 9 = .ok (.invokevirtual 69, 3) := by decide +kernel
theorem dX12_bearsOf_12 : decode cX12_bearsOf 12 = .ok (.iload_n 1, 1) := by decide +kernel
theorem dX12_bearsOf_13 : decode cX12_bearsOf 13 = .ok (.invokestatic 84, 3) := by decide +kernel
theorem dX12_bearsOf_16 : decode cX12_bearsOf 16 = .ok (.ireturn, 1) := by decide +kernel
theorem dX12_paysOf_0 : decode cX12_paysOf 0 = .ok (.aload_n 0, 1) := by decide +kernel
theorem dX12_paysOf_1 : decode cX12_paysOf 1 = .ok (.iload_n 1, 1) := by decide +kernel
theorem dX12_paysOf_2 : decode cX12_paysOf 2 = .ok (.iconst 4, 1) := by decide +kernel
theorem dX12_paysOf_3 : decode cX12_paysOf 3 = .ok (.invokevirtual 69, 3) := by decide +kernel
theorem dX12_paysOf_6 : decode cX12_paysOf 6 = .ok (.ifCond .ne 36, 3) := by decide +kernel
theorem dX12_paysOf_9 : decode cX12_paysOf 9 = .ok (.aload_n 0, 1) := by decide +kernel
theorem dX12_paysOf_10 : decode cX12_paysOf 10 = .ok (.iload_n 1, 1) := by decide +kernel
theorem dX12_paysOf_11 : decode cX12_paysOf 11 = .ok (.iconst 1, 1) := by decide +kernel
theorem dX12_paysOf_12 : decode cX12_paysOf 12 = .ok (.invokevirtual 69, 3) := by decide +kernel
theorem dX12_paysOf_15 : decode cX12_paysOf 15 = .ok (.bipush 6, 2) := by decide +kernel
theorem dX12_paysOf_17 : decode cX12_paysOf 17 = .ok (.aload_n 0, 1) := by decide +kernel
theorem dX12_paysOf_18 : decode cX12_paysOf 18 = .ok (.invokevirtual 73, 3) := by decide +kernel
theorem dX12_paysOf_21 : decode cX12_paysOf 21 = .ok (.imul, 1) := by decide +kernel
theorem dX12_paysOf_22 : decode cX12_paysOf 22 = .ok (.iadd, 1) := by decide +kernel
theorem dX12_paysOf_23 : decode cX12_paysOf 23 = .ok (.aload_n 0, 1) := by decide +kernel
theorem dX12_paysOf_24 : decode cX12_paysOf 24 = .ok (.iload_n 1, 1) := by decide +kernel
theorem dX12_paysOf_25 : decode cX12_paysOf 25 = .ok (.invokevirtual 88, 3) := by decide +kernel
theorem dX12_paysOf_28 : decode cX12_paysOf 28 = .ok (.if_icmp .lt 14, 3) := by decide +kernel
theorem dX12_paysOf_31 : decode cX12_paysOf 31 = .ok (.iconst 4, 1) := by decide +kernel
theorem dX12_paysOf_32 : decode cX12_paysOf 32 = .ok (.aload_n 0, 1) := by decide +kernel
theorem dX12_paysOf_33 : decode cX12_paysOf 33 = .ok (.iload_n 1, 1) := by decide +kernel
theorem dX12_paysOf_34 : decode cX12_paysOf 34 = .ok (.iconst 2, 1) := by decide +kernel
theorem dX12_paysOf_35 : decode cX12_paysOf 35 = .ok (.invokevirtual 69, 3) := by decide +kernel
theorem dX12_paysOf_38 : decode cX12_paysOf 38 = .ok (.iadd, 1) := by decide +kernel
theorem dX12_paysOf_39 : decode cX12_paysOf 39 = .ok (.goto 4, 3) := by decide +kernel
theorem dX12_paysOf_42 : decode cX12_paysOf 42 = .ok (.iconst 0, 1) := by decide +kernel
theorem dX12_paysOf_43 : decode cX12_paysOf 43 = .ok (.ireturn, 1) := by decide +kernel
theorem dX12_mayFall_0 : decode cX12_mayFall 0 = .ok (.aload_n 0, 1) := by decide +kernel
theorem dX12_mayFall_1 : decode cX12_mayFall 1 = .ok (.iload_n 1, 1) := by decide +kernel
theorem dX12_mayFall_2 : decode cX12_mayFall 2 = .ok (.invokevirtual 91, 3) := by decide +kernel
theorem dX12_mayFall_5 : decode cX12_mayFall 5 = .ok (.ifCond .le 15, 3) := by decide +kernel
theorem dX12_mayFall_8 : decode cX12_mayFall 8 = .ok (.aload_n 0, 1) := by decide +kernel
theorem dX12_mayFall_9 : decode cX12_mayFall 9 = .ok (.iload_n 1, 1) := by decide +kernel
theorem dX12_mayFall_10 : decode cX12_mayFall 10 = .ok (.invokevirtual 94, 3) := by decide +kernel
theorem dX12_mayFall_13 : decode cX12_mayFall 13 = .ok (.ifCond .ne 7, 3) := by decide +kernel
theorem dX12_mayFall_16 : decode cX12_mayFall 16 = .ok (.iconst 1, 1) := by decide +kernel
theorem dX12_mayFall_17 : decode cX12_mayFall 17 = .ok (.goto 4, 3) := by decide +kernel
theorem dX12_mayFall_20 : decode cX12_mayFall 20 = .ok (.iconst 0, 1) := by decide +kernel
theorem dX12_mayFall_21 : decode cX12_mayFall 21 = .ok (.ireturn, 1) := by decide +kernel
theorem dX12_isUnder_0 : decode cX12_isUnder 0 = .ok (.iload_n 1, 1) := by decide +kernel
theorem dX12_isUnder_1 : decode cX12_isUnder 1 = .ok (.ifCond .eq 28, 3) := by decide +kernel
theorem dX12_isUnder_4 : decode cX12_isUnder 4 = .ok (.iload_n 0, 1) := by decide +kernel
theorem dX12_isUnder_5 : decode cX12_isUnder 5 = .ok (.iload_n 1, 1) := by decide +kernel
theorem dX12_isUnder_6 : decode cX12_isUnder 6 = .ok (.if_icmp .eq 23, 3) := by decide +kernel
theorem dX12_isUnder_9 : decode cX12_isUnder 9 = .ok (.iload_n 1, 1) := by decide +kernel
theorem dX12_isUnder_10 : decode cX12_isUnder 10 = .ok (.iconst 2, 1) := by decide +kernel
theorem dX12_isUnder_11 : decode cX12_isUnder 11 = .ok (.if_icmp .ne 8, 3) := by decide +kernel
theorem dX12_isUnder_14 : decode cX12_isUnder 14 = .ok (.iload_n 0, 1) := by decide +kernel
theorem dX12_isUnder_15 : decode cX12_isUnder 15 = .ok (.iconst 3, 1) := by decide +kernel
theorem dX12_isUnder_16 : decode cX12_isUnder 16 = .ok (.if_icmp .eq 13, 3) := by decide +kernel
theorem dX12_isUnder_19 : decode cX12_isUnder 19 = .ok (.iload_n 1, 1) := by decide +kernel
theorem dX12_isUnder_20 : decode cX12_isUnder 20 = .ok (.iconst 4, 1) := by decide +kernel
theorem dX12_isUnder_21 : decode cX12_isUnder 21 = .ok (.if_icmp .ne 12, 3) := by decide +kernel
theorem dX12_isUnder_24 : decode cX12_isUnder 24 = .ok (.iload_n 0, 1) := by decide +kernel
theorem dX12_isUnder_25 : decode cX12_isUnder 25 = .ok (.iconst 5, 1) := by decide +kernel
theorem dX12_isUnder_26 : decode cX12_isUnder 26 = .ok (.if_icmp .ne 7, 3) := by decide +kernel
theorem dX12_isUnder_29 : decode cX12_isUnder 29 = .ok (.iconst 1, 1) := by decide +kernel
theorem dX12_isUnder_30 : decode cX12_isUnder 30 = .ok (.goto 4, 3) := by decide +kernel
theorem dX12_isUnder_33 : decode cX12_isUnder 33 = .ok (.iconst 0, 1) := by decide +kernel
theorem dX12_isUnder_34 : decode cX12_isUnder 34 = .ok (.ireturn, 1) := by decide +kernel
theorem dX12_fallenOnes_0 : decode cX12_fallenOnes 0 = .ok (.iconst 0, 1) := by decide +kernel
theorem dX12_fallenOnes_1 : decode cX12_fallenOnes 1 = .ok (.istore_n 1, 1) := by decide +kernel
theorem dX12_fallenOnes_2 : decode cX12_fallenOnes 2 = .ok (.iconst 0, 1) := by decide +kernel
theorem dX12_fallenOnes_3 : decode cX12_fallenOnes 3 = .ok (.istore_n 2, 1) := by decide +kernel
theorem dX12_fallenOnes_4 : decode cX12_fallenOnes 4 = .ok (.iload_n 2, 1) := by decide +kernel
theorem dX12_fallenOnes_5 : decode cX12_fallenOnes 5 = .ok (.aload_n 0, 1) := by decide +kernel
theorem dX12_fallenOnes_6 : decode cX12_fallenOnes 6 = .ok (.getfield 9, 3) := by decide +kernel
theorem dX12_fallenOnes_9 : decode cX12_fallenOnes 9 = .ok (.iconst 4, 1) := by decide +kernel
theorem dX12_fallenOnes_10 : decode cX12_fallenOnes 10 = .ok (.iaload, 1) := by decide +kernel
theorem dX12_fallenOnes_11 : decode cX12_fallenOnes 11 = .ok (.if_icmp .ge 20, 3) := by decide +kernel
theorem dX12_fallenOnes_14 : decode cX12_fallenOnes 14 = .ok (.iload_n 1, 1) := by decide +kernel
theorem dX12_fallenOnes_15 : decode cX12_fallenOnes 15 = .ok (.aload_n 0, 1) := by decide +kernel
theorem dX12_fallenOnes_16 : decode cX12_fallenOnes 16 = .ok (.iload_n 2, 1) := by decide +kernel
theorem dX12_fallenOnes_17 : decode cX12_fallenOnes 17 = .ok (.iconst 4, 1) := by decide +kernel
theorem dX12_fallenOnes_18 : decode cX12_fallenOnes 18 = .ok (.invokevirtual 69, 3) := by decide +kernel
theorem dX12_fallenOnes_21 : decode cX12_fallenOnes 21 = .ok (.iload_n 2, 1) := by decide +kernel
theorem dX12_fallenOnes_22 : decode cX12_fallenOnes 22 = .ok (.ishl, 1) := by decide +kernel
theorem dX12_fallenOnes_23 : decode cX12_fallenOnes 23 = .ok (.ior, 1) := by decide +kernel
theorem dX12_fallenOnes_24 : decode cX12_fallenOnes 24 = .ok (.istore_n 1, 1) := by decide +kernel
theorem dX12_fallenOnes_25 : decode cX12_fallenOnes 25 = .ok (.iinc 2 1, 3) := by decide +kernel
theorem dX12_fallenOnes_28 : decode cX12_fallenOnes 28 = .ok (.goto (-24), 3) := by decide +kernel
theorem dX12_fallenOnes_31 : decode cX12_fallenOnes 31 = .ok (.iload_n 1, 1) := by decide +kernel
theorem dX12_fallenOnes_32 : decode cX12_fallenOnes 32 = .ok (.ireturn, 1) := by decide +kernel
theorem dX12_isOf_0 : decode cX12_isOf 0 = .ok (.iload_n 0, 1) := by decide +kernel
theorem dX12_isOf_1 : decode cX12_isOf 1 = .ok (.tableswitch 59 1 4 #[31, 39, 47, 52], 31) := by decide +kernel
theorem dX12_isOf_32 : decode cX12_isOf 32 = .ok (.iload_n 1, 1) := by decide +kernel
theorem dX12_isOf_33 : decode cX12_isOf 33 = .ok (.iconst 0, 1) := by decide +kernel
theorem dX12_isOf_34 : decode cX12_isOf 34 = .ok (.bipush 99, 2) := by decide +kernel
theorem dX12_isOf_36 : decode cX12_isOf 36 = .ok (.invokestatic 61, 3) := by decide +kernel
theorem dX12_isOf_39 : decode cX12_isOf 39 = .ok (.ireturn, 1) := by decide +kernel
theorem dX12_isOf_40 : decode cX12_isOf 40 = .ok (.iload_n 1, 1) := by decide +kernel
theorem dX12_isOf_41 : decode cX12_isOf 41 = .ok (.iconst 0, 1) := by decide +kernel
theorem dX12_isOf_42 : decode cX12_isOf 42 = .ok (.bipush 9, 2) := by decide +kernel
theorem dX12_isOf_44 : decode cX12_isOf 44 = .ok (.invokestatic 61, 3) := by decide +kernel
theorem dX12_isOf_47 : decode cX12_isOf 47 = .ok (.ireturn, 1) := by decide +kernel
theorem dX12_isOf_48 : decode cX12_isOf 48 = .ok (.iload_n 1, 1) := by decide +kernel
theorem dX12_isOf_49 : decode cX12_isOf 49 = .ok (.invokestatic 97, 3) := by decide +kernel
theorem dX12_isOf_52 : decode cX12_isOf 52 = .ok (.ireturn, 1) := by decide +kernel
theorem dX12_isOf_53 : decode cX12_isOf 53 = .ok (.iload_n 1, 1) := by decide +kernel
theorem dX12_isOf_54 : decode cX12_isOf 54 = .ok (.iconst 0, 1) := by decide +kernel
theorem dX12_isOf_55 : decode cX12_isOf 55 = .ok (.iconst 1, 1) := by decide +kernel
theorem dX12_isOf_56 : decode cX12_isOf 56 = .ok (.invokestatic 61, 3) := by decide +kernel
theorem dX12_isOf_59 : decode cX12_isOf 59 = .ok (.ireturn, 1) := by decide +kernel
theorem dX12_isOf_60 : decode cX12_isOf 60 = .ok (.iconst 0, 1) := by decide +kernel
theorem dX12_isOf_61 : decode cX12_isOf 61 = .ok (.ireturn, 1) := by decide +kernel
theorem dX12_piece_0 : decode cX12_piece 0 = .ok (.iload_n 1, 1) := by decide +kernel
theorem dX12_piece_1 : decode cX12_piece 1 = .ok (.iconst 1, 1) := by decide +kernel
theorem dX12_piece_2 : decode cX12_piece 2 = .ok (.iconst 5, 1) := by decide +kernel
theorem dX12_piece_3 : decode cX12_piece 3 = .ok (.invokestatic 61, 3) := by decide +kernel
theorem dX12_piece_6 : decode cX12_piece 6 = .ok (.ifCond .eq 27, 3) := by decide +kernel
theorem dX12_piece_9 : decode cX12_piece 9 = .ok (.iconst 1, 1) := by decide +kernel
theorem dX12_piece_10 : decode cX12_piece 10 = .ok (.iload_n 2, 1) := by decide +kernel
theorem dX12_piece_11 : decode cX12_piece 11 = .ok (.invokestatic 101, 3) := by decide +kernel
theorem dX12_piece_14 : decode cX12_piece 14 = .ok (.ifCond .eq 19, 3) := by decide +kernel
theorem dX12_piece_17 : decode cX12_piece 17 = .ok (.iconst 2, 1) := by decide +kernel
theorem dX12_piece_18 : decode cX12_piece 18 = .ok (.iload_n 3, 1) := by decide +kernel
