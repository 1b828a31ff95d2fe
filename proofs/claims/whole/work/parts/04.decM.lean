theorem dX12_init_0 : decode cX12_init 0 = .ok (.aload_n 0, 1) := by decide +kernel
theorem dX12_init_1 : decode cX12_init 1 = .ok (.invokespecial 1, 3) := by decide +kernel
theorem dX12_init_4 : decode cX12_init 4 = .ok (.aload_n 0, 1) := by decide +kernel
theorem dX12_init_5 : decode cX12_init 5 = .ok (.bipush 6, 2) := by decide +kernel
theorem dX12_init_7 : decode cX12_init 7 = .ok (.newarray .int, 2) := by decide +kernel
theorem dX12_init_9 : decode cX12_init 9 = .ok (.putfield 7, 3) := by decide +kernel
theorem dX12_init_12 : decode cX12_init 12 = .ok (.aload_n 0, 1) := by decide +kernel
theorem dX12_init_13 : decode cX12_init 13 = .ok (.bipush 6, 2) := by decide +kernel
theorem dX12_init_15 : decode cX12_init 15 = .ok (.newarray .int, 2) := by decide +kernel
theorem dX12_init_17 : decode cX12_init 17 = .ok (.putfield 13, 3) := by decide +kernel
theorem dX12_init_20 : decode cX12_init 20 = .ok (.aload_n 0, 1) := by decide +kernel
theorem dX12_init_21 : decode cX12_init 21 = .ok (.bipush 6, 2) := by decide +kernel
theorem dX12_init_23 : decode cX12_init 23 = .ok (.newarray .int, 2) := by decide +kernel
theorem dX12_init_25 : decode cX12_init 25 = .ok (.putfield 16, 3) := by decide +kernel
theorem dX12_init_28 : decode cX12_init 28 = .ok (.aload_n 0, 1) := by decide +kernel
theorem dX12_init_29 : decode cX12_init 29 = .ok (.bipush 9, 2) := by decide +kernel
theorem dX12_init_31 : decode cX12_init 31 = .ok (.newarray .int, 2) := by decide +kernel
theorem dX12_init_33 : decode cX12_init 33 = .ok (.putfield 19, 3) := by decide +kernel
theorem dX12_init_36 : decode cX12_init 36 = .ok (.aload_n 0, 1) := by decide +kernel
theorem dX12_init_37 : decode cX12_init 37 = .ok (.bipush 8, 2) := by decide +kernel
theorem dX12_init_39 : decode cX12_init 39 = .ok (.newarray .int, 2) := by decide +kernel
theorem dX12_init_41 : decode cX12_init 41 = .ok (.putfield 22, 3) := by decide +kernel
theorem dX12_init_44 : decode cX12_init 44 = .ok (.aload_n 0, 1) := by decide +kernel
theorem dX12_init_45 : decode cX12_init 45 = .ok (.bipush 8, 2) := by decide +kernel
theorem dX12_init_47 : decode cX12_init 47 = .ok (.newarray .int, 2) := by decide +kernel
theorem dX12_init_49 : decode cX12_init 49 = .ok (.putfield 25, 3) := by decide +kernel
theorem dX12_init_52 : decode cX12_init 52 = .ok (.aload_n 0, 1) := by decide +kernel
theorem dX12_init_53 : decode cX12_init 53 = .ok (.bipush 8, 2) := by decide +kernel
theorem dX12_init_55 : decode cX12_init 55 = .ok (.newarray .int, 2) := by decide +kernel
theorem dX12_init_57 : decode cX12_init 57 = .ok (.putfield 28, 3) := by decide +kernel
theorem dX12_init_60 : decode cX12_init 60 = .ok (.aload_n 0, 1) := by decide +kernel
theorem dX12_init_61 : decode cX12_init 61 = .ok (.bipush 8, 2) := by decide +kernel
theorem dX12_init_63 : decode cX12_init 63 = .ok (.newarray .int, 2) := by decide +kernel
theorem dX12_init_65 : decode cX12_init 65 = .ok (.putfield 31, 3) := by decide +kernel
theorem dX12_init_68 : decode cX12_init 68 = .ok (.aload_n 0, 1) := by decide +kernel
theorem dX12_init_69 : decode cX12_init 69 = .ok (.bipush 8, 2) := by decide +kernel
theorem dX12_init_71 : decode cX12_init 71 = .ok (.newarray .boolean, 2) := by decide +kernel
theorem dX12_init_73 : decode cX12_init 73 = .ok (.putfield 34, 3) := by decide +kernel
theorem dX12_init_76 : decode cX12_init 76 = .ok (.aload_n 0, 1) := by decide +kernel
theorem dX12_init_77 : decode cX12_init 77 = .ok (.bipush 8, 2) := by decide +kernel
theorem dX12_init_79 : decode cX12_init 79 = .ok (.newarray .int, 2) := by decide +kernel
theorem dX12_init_81 : decode cX12_init 81 = .ok (.putfield 38, 3) := by decide +kernel
theorem dX12_init_84 : decode cX12_init 84 = .ok (.aload_n 0, 1) := by decide +kernel
theorem dX12_init_85 : decode cX12_init 85 = .ok (.bipush 8, 2) := by decide +kernel
theorem dX12_init_87 : decode cX12_init 87 = .ok (.newarray .int, 2) := by decide +kernel
theorem dX12_init_89 : decode cX12_init 89 = .ok (.putfield 41, 3) := by decide +kernel
theorem dX12_init_92 : decode cX12_init 92 = .ok (.aload_n 0, 1) := by decide +kernel
theorem dX12_init_93 : decode cX12_init 93 = .ok (.sipush 160, 3) := by decide +kernel
theorem dX12_init_96 : decode cX12_init 96 = .ok (.newarray .byte, 2) := by decide +kernel
theorem dX12_init_98 : decode cX12_init 98 = .ok (.putfield 44, 3) := by decide +kernel
theorem dX12_init_101 : decode cX12_init 101 = .ok (.aload_n 0, 1) := by decide +kernel
theorem dX12_init_102 : decode cX12_init 102 = .ok (.iconst 1, 1) := by decide +kernel
theorem dX12_init_103 : decode cX12_init 103 = .ok (.putfield 48, 3) := by decide +kernel
theorem dX12_init_106 : decode cX12_init 106 = .ok (.aload_n 0, 1) := by decide +kernel
theorem dX12_init_107 : decode cX12_init 107 = .ok (.sipush 1190, 3) := by decide +kernel
theorem dX12_init_110 : decode cX12_init 110 = .ok (.newarray .int, 2) := by decide +kernel
theorem dX12_init_112 : decode cX12_init 112 = .ok (.putfield 52, 3) := by decide +kernel
theorem dX12_init_115 : decode cX12_init 115 = .ok (.aload_n 0, 1) := by decide +kernel
theorem dX12_init_116 : decode cX12_init 116 = .ok (.sipush 1190, 3) := by decide +kernel
theorem dX12_init_119 : decode cX12_init 119 = .ok (.newarray .int, 2) := by decide +kernel
theorem dX12_init_121 : decode cX12_init 121 = .ok (.putfield 55, 3) := by decide +kernel
theorem dX12_init_124 : decode cX12_init 124 = .ok (.aload_n 0, 1) := by decide +kernel
theorem dX12_init_125 : decode cX12_init 125 = .ok (.bipush 21, 2) := by decide +kernel
theorem dX12_init_127 : decode cX12_init 127 = .ok (.newarray .int, 2) := by decide +kernel
theorem dX12_init_129 : decode cX12_init 129 = .ok (.putfield 58, 3) := by decide +kernel
theorem dX12_init_132 : decode cX12_init 132 = .ok (.aload_n 0, 1) := by decide +kernel
theorem dX12_init_133 : decode cX12_init 133 = .ok (.sipush 170, 3) := by decide +kernel
theorem dX12_init_136 : decode cX12_init 136 = .ok (.newarray .int, 2) := by decide +kernel
theorem dX12_init_138 : decode cX12_init 138 = .ok (.putfield 61, 3) := by decide +kernel
theorem dX12_init_141 : decode cX12_init 141 = .ok (.aload_n 0, 1) := by decide +kernel
theorem dX12_init_142 : decode cX12_init 142 = .ok (.bipush 6, 2) := by decide +kernel
theorem dX12_init_144 : decode cX12_init 144 = .ok (.newarray .int, 2) := by decide +kernel
theorem dX12_init_146 : decode cX12_init 146 = .ok (.putfield 64, 3) := by decide +kernel
theorem dX12_init_149 : decode cX12_init 149 = .ok (.aload_n 0, 1) := by decide +kernel
theorem dX12_init_150 : decode cX12_init 150 = .ok (.iconst 5, 1) := by decide +kernel
theorem dX12_init_151 : decode cX12_init 151 = .ok (.newarray .int, 2) := by decide +kernel
theorem dX12_init_153 : decode cX12_init 153 = .ok (.putfield 67, 3) := by decide +kernel
theorem dX12_init_156 : decode cX12_init 156 = .ok (.aload_n 0, 1) := by decide +kernel
theorem dX12_init_157 : decode cX12_init 157 = .ok (.bipush 6, 2) := by decide +kernel
theorem dX12_init_159 : decode cX12_init 159 = .ok (.newarray .int, 2) := by decide +kernel
theorem dX12_init_161 : decode cX12_init 161 = .ok (.putfield 70, 3) := by decide +kernel
theorem dX12_init_164 : decode cX12_init 164 = .ok (.aload_n 0, 1) := by decide +kernel
theorem dX12_init_165 : decode cX12_init 165 = .ok (.sipush 216, 3) := by decide +kernel
theorem dX12_init_168 : decode cX12_init 168 = .ok (.newarray .boolean, 2) := by decide +kernel
theorem dX12_init_170 : decode cX12_init 170 = .ok (.putfield 73, 3) := by decide +kernel
theorem dX12_init_173 : decode cX12_init 173 = .ok (.aload_n 0, 1) := by decide +kernel
theorem dX12_init_174 : decode cX12_init 174 = .ok (.bipush 6, 2) := by decide +kernel
theorem dX12_init_176 : decode cX12_init 176 = .ok (.newarray .int, 2) := by decide +kernel
theorem dX12_init_178 : decode cX12_init 178 = .ok (.putfield 76, 3) := by decide +kernel
theorem dX12_init_181 : decode cX12_init 181 = .ok (.aload_n 0, 1) := by decide +kernel
theorem dX12_init_182 : decode cX12_init 182 = .ok (.bipush 9, 2) := by decide +kernel
theorem dX12_init_184 : decode cX12_init 184 = .ok (.newarray .int, 2) := by decide +kernel
theorem dX12_init_186 : decode cX12_init 186 = .ok (.putfield 79, 3) := by decide +kernel
theorem dX12_init_189 : decode cX12_init 189 = .ok (.aload_n 0, 1) := by decide +kernel
theorem dX12_init_190 : decode cX12_init 190 = .ok (.bipush 8, 2) := by decide +kernel
theorem dX12_init_192 : decode cX12_init 192 = .ok (.newarray .boolean, 2) := by decide +kernel
theorem dX12_init_194 : decode cX12_init 194 = .ok (.putfield 82, 3) := by decide +kernel
theorem dX12_init_197 : decode cX12_init 197 = .ok (.aload_n 0, 1) := by decide +kernel
theorem dX12_init_198 : decode cX12_init 198 = .ok (.bipush 8, 2) := by decide +kernel
theorem dX12_init_200 : decode cX12_init 200 = .ok (.newarray .int, 2) := by decide +kernel
theorem dX12_init_202 : decode cX12_init 202 = .ok (.putfield 85, 3) := by decide +kernel
theorem dX12_init_205 : decode cX12_init 205 = .ok (.aload_n 0, 1) := by decide +kernel
theorem dX12_init_206 : decode cX12_init 206 = .ok (.bipush 8, 2) := by decide +kernel
theorem dX12_init_208 : decode cX12_init 208 = .ok (.newarray .int, 2) := by decide +kernel
theorem dX12_init_210 : decode cX12_init 210 = .ok (.putfield 88, 3) := by decide +kernel
theorem dX12_init_213 : decode cX12_init 213 = .ok (.aload_n 0, 1) := by decide +kernel
theorem dX12_init_214 : decode cX12_init 214 = .ok (.iconst 4, 1) := by decide +kernel
theorem dX12_init_215 : decode cX12_init 215 = .ok (.newarray .int, 2) := by decide +kernel
theorem dX12_init_217 : decode cX12_init 217 = .ok (.dup, 1) := by decide +kernel
theorem dX12_init_218 : decode cX12_init 218 = .ok (.iconst 0, 1) := by decide +kernel
theorem dX12_init_219 : decode cX12_init 219 = .ok (.iconst (-1), 1) := by decide +kernel
theorem dX12_init_220 : decode cX12_init 220 = .ok (.iastore, 1) := by decide +kernel
theorem dX12_init_221 : decode cX12_init 221 = .ok (.dup, 1) := by decide +kernel
theorem dX12_init_222 : decode cX12_init 222 = .ok (.iconst 1, 1) := by decide +kernel
theorem dX12_init_223 : decode cX12_init 223 = .ok (.iconst (-1), 1) := by decide +kernel
theorem dX12_init_224 : decode cX12_init 224 = .ok (.iastore, 1) := by decide +kernel
theorem dX12_init_225 : decode cX12_init 225 = .ok (.dup, 1) := by decide +kernel
theorem dX12_init_226 : decode cX12_init 226 = .ok (.iconst 2, 1) := by decide +kernel
theorem dX12_init_227 : decode cX12_init 227 = .ok (.iconst (-1), 1) := by decide +kernel
theorem dX12_init_228 : decode cX12_init 228 = .ok (.iastore, 1) := by decide +kernel
theorem dX12_init_229 : decode cX12_init 229 = .ok (.dup, 1) := by decide +kernel
theorem dX12_init_230 : decode cX12_init 230 = .ok (.iconst 3, 1) := by decide +kernel
theorem dX12_init_231 : decode cX12_init 231 = .ok (.iconst (-1), 1) := by decide +kernel
theorem dX12_init_232 : decode cX12_init 232 = .ok (.iastore, 1) := by decide +kernel
theorem dX12_init_233 : decode cX12_init 233 = .ok (.putfield 91, 3) := by decide +kernel
theorem dX12_init_236 : decode cX12_init 236 = .ok (.aload_n 0, 1) := by decide +kernel
theorem dX12_init_237 : decode cX12_init 237 = .ok (.iconst 4, 1) := by decide +kernel
theorem dX12_init_238 : decode cX12_init 238 = .ok (.newarray .int, 2) := by decide +kernel
theorem dX12_init_240 : decode cX12_init 240 = .ok (.putfield 94, 3) := by decide +kernel
theorem dX12_init_243 : decode cX12_init 243 = .ok (.aload_n 0, 1) := by decide +kernel
theorem dX12_init_244 : decode cX12_init 244 = .ok (.sipush 160, 3) := by decide +kernel
theorem dX12_init_247 : decode cX12_init 247 = .ok (.newarray .int, 2) := by decide +kernel
theorem dX12_init_249 : decode cX12_init 249 = .ok (.putfield 97, 3) := by decide +kernel
theorem dX12_init_252 : decode cX12_init 252 = .ok (.aload_n 0, 1) := by decide +kernel
theorem dX12_init_253 : decode cX12_init 253 = .ok (.bipush 40, 2) := by decide +kernel
theorem dX12_init_255 : decode cX12_init 255 = .ok (.newarray .int, 2) := by decide +kernel
theorem dX12_init_257 : decode cX12_init 257 = .ok (.putfield 100, 3) := by decide +kernel
theorem dX12_init_260 : decode cX12_init 260 = .ok (.return_, 1) := by decide +kernel
theorem dX12_in_0 : decode cX12_in 0 = .ok (.iload_n 0, 1) := by decide +kernel
theorem dX12_in_1 : decode cX12_in 1 = .ok (.iload_n 1, 1) := by decide +kernel
theorem dX12_in_2 : decode cX12_in 2 = .ok (.if_icmp .lt 12, 3) := by decide +kernel
theorem dX12_in_5 : decode cX12_in 5 = .ok (.iload_n 0, 1) := by decide +kernel
theorem dX12_in_6 : decode cX12_in 6 = .ok (.iload_n 2, 1) := by decide +kernel
theorem dX12_in_7 : decode cX12_in 7 = .ok (.if_icmp .gt 7, 3) := by decide +kernel
theorem dX12_in_10 : decode cX12_in 10 = .ok (.iconst 1, 1) := by decide +kernel
theorem dX12_in_11 : decode cX12_in 11 = .ok (.goto 4, 3) := by decide +kernel
theorem dX12_in_14 : decode cX12_in 14 = .ok (.iconst 0, 1) := by decide +kernel
theorem dX12_in_15 : decode cX12_in 15 = .ok (.ireturn, 1) := by decide +kernel
theorem dX12_held_0 : decode cX12_held 0 = .ok (.iload_n 0, 1) := by decide +kernel
theorem dX12_held_1 : decode cX12_held 1 = .ok (.ifCond .ge 7, 3) := by decide +kernel
theorem dX12_held_4 : decode cX12_held 4 = .ok (.iconst 0, 1) := by decide +kernel
theorem dX12_held_5 : decode cX12_held 5 = .ok (.goto 13, 3) := by decide +kernel
theorem dX12_held_8 : decode cX12_held 8 = .ok (.iload_n 0, 1) := by decide +kernel
theorem dX12_held_9 : decode cX12_held 9 = .ok (.iload_n 1, 1) := by decide +kernel
theorem dX12_held_10 : decode cX12_held 10 = .ok (.if_icmp .le 7, 3) := by decide +kernel
theorem dX12_held_13 : decode cX12_held 13 = .ok (.iload_n 1, 1) := by decide +kernel
theorem dX12_held_14 : decode cX12_held 14 = .ok (.goto 4, 3) := by decide +kernel
theorem dX12_held_17 : decode cX12_held 17 = .ok (.iload_n 0, 1) := by decide +kernel
theorem dX12_held_18 : decode cX12_held 18 = .ok (.ireturn, 1) := by decide +kernel
theorem dX12_isHank_0 : decode cX12_isHank 0 = .ok (.iload_n 1, 1) := by decide +kernel
theorem dX12_isHank_1 : decode cX12_isHank 1 = .ok (.iconst 0, 1) := by decide +kernel
theorem dX12_isHank_2 : decode cX12_isHank 2 = .ok (.aload_n 0, 1) := by decide +kernel
theorem dX12_isHank_3 : decode cX12_isHank 3 = .ok (.getfield 106, 3) := by decide +kernel
theorem dX12_isHank_6 : decode cX12_isHank 6 = .ok (.iconst 1, 1) := by decide +kernel
theorem dX12_isHank_7 : decode cX12_isHank 7 = .ok (.isub, 1) := by decide +kernel
theorem dX12_isHank_8 : decode cX12_isHank 8 = .ok (.invokestatic 109, 3) := by decide +kernel
theorem dX12_isHank_11 : decode cX12_isHank 11 = .ok (.ireturn, 1) := by decide +kernel
theorem dX12_isCoat_0 : decode cX12_isCoat 0 = .ok (.iload_n 1, 1) := by decide +kernel
theorem dX12_isCoat_1 : decode cX12_isCoat 1 = .ok (.iconst 0, 1) := by decide +kernel
theorem dX12_isCoat_2 : decode cX12_isCoat 2 = .ok (.aload_n 0, 1) := by decide +kernel
theorem dX12_isCoat_3 : decode cX12_isCoat 3 = .ok (.getfield 113, 3) := by decide +kernel
theorem dX12_isCoat_6 : decode cX12_isCoat 6 = .ok (.iconst 1, 1) := by decide +kernel
theorem dX12_isCoat_7 : decode cX12_isCoat 7 = .ok (.isub, 1) := by decide +kernel
theorem dX12_isCoat_8 : decode cX12_isCoat 8 = .ok (.invokestatic 109, 3) := by decide +kernel
theorem dX12_isCoat_11 : decode cX12_isCoat 11 = .ok (.ireturn, 1) := by decide +kernel
theorem dX12_hank_0 : decode cX12_hank 0 = .ok (.iload_n 1, 1) := by decide +kernel
theorem dX12_hank_1 : decode cX12_hank 1 = .ok (.iconst 0, 1) := by decide +kernel
theorem dX12_hank_2 : decode cX12_hank 2 = .ok (.bipush 99, 2) := by decide +kernel
theorem dX12_hank_4 : decode cX12_hank 4 = .ok (.invokestatic 109, 3) := by decide +kernel
theorem dX12_hank_7 : decode cX12_hank 7 = .ok (.ifCond .eq 23, 3) := by decide +kernel
theorem dX12_hank_10 : decode cX12_hank 10 = .ok (.iload_n 2, 1) := by decide +kernel
theorem dX12_hank_11 : decode cX12_hank 11 = .ok (.iconst 0, 1) := by decide +kernel
theorem dX12_hank_12 : decode cX12_hank 12 = .ok (.bipush 99, 2) := by decide +kernel
theorem dX12_hank_14 : decode cX12_hank 14 = .ok (.invokestatic 109, 3) := by decide +kernel
theorem dX12_hank_17 : decode cX12_hank 17 = .ok (.ifCond .eq 13, 3) := by decide +kernel
theorem dX12_hank_20 : decode cX12_hank 20 = .ok (.iload_n 3, 1) := by decide +kernel
theorem dX12_hank_21 : decode cX12_hank 21 = .ok (.iconst 0, 1) := by decide +kernel
theorem dX12_hank_22 : decode cX12_hank 22 = .ok (.bipush 8, 2) := by decide +kernel
theorem dX12_hank_24 : decode cX12_hank 24 = .ok (.invokestatic 109, 3) := by decide +kernel
theorem dX12_hank_27 : decode cX12_hank 27 = .ok (.ifCond .ne 6, 3) := by decide +kernel
theorem dX12_hank_30 : decode cX12_hank 30 = .ok (.bipush (-2), 2) := by decide +kernel
theorem dX12_hank_32 : decode cX12_hank 32 = .ok (.ireturn, 1) := by decide +kernel
theorem dX12_hank_33 : decode cX12_hank 33 = .ok (.aload_n 0, 1) := by decide +kernel
theorem dX12_hank_34 : decode cX12_hank 34 = .ok (.getfield 106, 3) := by decide +kernel
theorem dX12_hank_37 : decode cX12_hank 37 = .ok (.bipush 6, 2) := by decide +kernel
theorem dX12_hank_39 : decode cX12_hank 39 = .ok (.if_icmp .ne 6, 3) := by decide +kernel
theorem dX12_hank_42 : decode cX12_hank 42 = .ok (.bipush (-4), 2) := by decide +kernel
theorem dX12_hank_44 : decode cX12_hank 44 = .ok (.ireturn, 1) := by decide +kernel
theorem dX12_hank_45 : decode cX12_hank 45 = .ok (.aload_n 0, 1) := by decide +kernel
theorem dX12_hank_46 : decode cX12_hank 46 = .ok (.getfield 7, 3) := by decide +kernel
theorem dX12_hank_49 : decode cX12_hank 49 = .ok (.aload_n 0, 1) := by decide +kernel
theorem dX12_hank_50 : decode cX12_hank 50 = .ok (.getfield 106, 3) := by decide +kernel
theorem dX12_hank_53 : decode cX12_hank 53 = .ok (.iload_n 1, 1) := by decide +kernel
theorem dX12_hank_54 : decode cX12_hank 54 = .ok (.iastore, 1) := by decide +kernel
theorem dX12_hank_55 : decode cX12_hank 55 = .ok (.aload_n 0, 1) := by decide +kernel
theorem dX12_hank_56 : decode cX12_hank 56 = .ok (.getfield 13, 3) := by decide +kernel
theorem dX12_hank_59 : decode cX12_hank 59 = .ok (.aload_n 0, 1) := by decide +kernel
theorem dX12_hank_60 : decode cX12_hank 60 = .ok (.getfield 106, 3) := by decide +kernel
theorem dX12_hank_63 : decode cX12_hank 63 = .ok (.iload_n 2, 1) := by decide +kernel
theorem dX12_hank_64 : decode cX12_hank 64 = .ok (.iastore, 1) := by decide +kernel
theorem dX12_hank_65 : decode cX12_hank 65 = .ok (.aload_n 0, 1) := by decide +kernel
theorem dX12_hank_66 : decode cX12_hank 66 = .ok (.getfield 16, 3) := by decide +kernel
theorem dX12_hank_69 : decode cX12_hank 69 = .ok (.aload_n 0, 1) := by decide +kernel
theorem dX12_hank_70 : decode cX12_hank 70 = .ok (.getfield 106, 3) := by decide +kernel
theorem dX12_hank_73 : decode cX12_hank 73 = .ok (.iload_n 3, 1) := by decide +kernel
theorem dX12_hank_74 : decode cX12_hank 74 = .ok (.iastore, 1) := by decide +kernel
theorem dX12_hank_75 : decode cX12_hank 75 = .ok (.aload_n 0, 1) := by decide +kernel
theorem dX12_hank_76 : decode cX12_hank 76 = .ok (.dup, 1) := by decide +kernel
theorem dX12_hank_77 : decode cX12_hank 77 = .ok (.getfield 106, 3) := by decide +kernel
theorem dX12_hank_80 : decode cX12_hank 80 = .ok (.iconst 1, 1) := by decide +kernel
theorem dX12_hank_81 : decode cX12_hank 81 = .ok (.iadd, 1) := by decide +kernel
theorem dX12_hank_82 : decode cX12_hank 82 = .ok (.putfield 106, 3) := by decide +kernel
theorem dX12_hank_85 : decode cX12_hank 85 = .ok (.aload_n 0, 1) := by decide +kernel
theorem dX12_hank_86 : decode cX12_hank 86 = .ok (.getfield 106, 3) := by decide +kernel
theorem dX12_hank_89 : decode cX12_hank 89 = .ok (.iconst 1, 1) := by decide +kernel
theorem dX12_hank_90 : decode cX12_hank 90 = .ok (.isub, 1) := by decide +kernel
theorem dX12_hank_91 : decode cX12_hank 91 = .ok (.ireturn, 1) := by decide +kernel
theorem dX12_ounces_0 : decode cX12_ounces 0 = .ok (.aload_n 0, 1) := by decide +kernel
theorem dX12_ounces_1 : decode cX12_ounces 1 = .ok (.iload_n 1, 1) := by decide +kernel
theorem dX12_ounces_2 : decode cX12_ounces 2 = .ok (.invokevirtual 116, 3) := by decide +kernel
theorem dX12_ounces_5 : decode cX12_ounces 5 = .ok (.ifCond .eq 13, 3) := by decide +kernel
theorem dX12_ounces_8 : decode cX12_ounces 8 = .ok (.iload_n 2, 1) := by decide +kernel
theorem dX12_ounces_9 : decode cX12_ounces 9 = .ok (.iconst 0, 1) := by decide +kernel
theorem dX12_ounces_10 : decode cX12_ounces 10 = .ok (.bipush 99, 2) := by decide +kernel
theorem dX12_ounces_12 : decode cX12_ounces 12 = .ok (.invokestatic 109, 3) := by decide +kernel
theorem dX12_ounces_15 : decode cX12_ounces 15 = .ok (.ifCond .ne 6, 3) := by decide +kernel
theorem dX12_ounces_18 : decode cX12_ounces 18 = .ok (.bipush (-2), 2) := by decide +kernel
theorem dX12_ounces_20 : decode cX12_ounces 20 = .ok (.ireturn, 1) := by decide +kernel
theorem dX12_ounces_21 : decode cX12_ounces 21 = .ok (.aload_n 0, 1) := by decide +kernel
theorem dX12_ounces_22 : decode cX12_ounces 22 = .ok (.getfield 7, 3) := by decide +kernel
theorem dX12_ounces_25 : decode cX12_ounces 25 = .ok (.iload_n 1, 1) := by decide +kernel
theorem dX12_ounces_26 : decode cX12_ounces 26 = .ok (.iaload, 1) := by decide +kernel
theorem dX12_ounces_27 : decode cX12_ounces 27 = .ok (.istore_n 3, 1) := by decide +kernel
theorem dX12_ounces_28 : decode cX12_ounces 28 = .ok (.aload_n 0, 1) := by decide +kernel
theorem dX12_ounces_29 : decode cX12_ounces 29 = .ok (.getfield 7, 3) := by decide +kernel
theorem dX12_ounces_32 : decode cX12_ounces 32 = .ok (.iload_n 1, 1) := by decide +kernel
theorem dX12_ounces_33 : decode cX12_ounces 33 = .ok (.iload_n 2, 1) := by decide +kernel
theorem dX12_ounces_34 : decode cX12_ounces 34 = .ok (.iastore, 1) := by decide +kernel
theorem dX12_ounces_35 : decode cX12_ounces 35 = .ok (.iload_n 3, 1) := by decide +kernel
theorem dX12_ounces_36 : decode cX12_ounces 36 = .ok (.ireturn, 1) := by decide +kernel
theorem dX12_fade_0 : decode cX12_fade 0 = .ok (.iload_n 1, 1) := by decide +kernel
theorem dX12_fade_1 : decode cX12_fade 1 = .ok (.iconst 0, 1) := by decide +kernel
theorem dX12_fade_2 : decode cX12_fade 2 = .ok (.bipush 8, 2) := by decide +kernel
theorem dX12_fade_4 : decode cX12_fade 4 = .ok (.invokestatic 109, 3) := by decide +kernel
theorem dX12_fade_7 : decode cX12_fade 7 = .ok (.ifCond .eq 13, 3) := by decide +kernel
theorem dX12_fade_10 : decode cX12_fade 10 = .ok (.iload_n 2, 1) := by decide +kernel
theorem dX12_fade_11 : decode cX12_fade 11 = .ok (.iconst 0, 1) := by decide +kernel
theorem dX12_fade_12 : decode cX12_fade 12 = .ok (.bipush 50, 2) := by decide +kernel
theorem dX12_fade_14 : decode cX12_fade 14 = .ok (.invokestatic 109, 3) := by decide +kernel
theorem dX12_fade_17 : decode cX12_fade 17 = .ok (.ifCond .ne 6, 3) := by decide +kernel
theorem dX12_fade_20 : decode cX12_fade 20 = .ok (.bipush (-2), 2) := by decide +kernel
theorem dX12_fade_22 : decode cX12_fade 22 = .ok (.ireturn, 1) := by decide +kernel
theorem dX12_fade_23 : decode cX12_fade 23 = .ok (.aload_n 0, 1) := by decide +kernel
theorem dX12_fade_24 : decode cX12_fade 24 = .ok (.getfield 19, 3) := by decide +kernel
theorem dX12_fade_27 : decode cX12_fade 27 = .ok (.iload_n 1, 1) := by decide +kernel
theorem dX12_fade_28 : decode cX12_fade 28 = .ok (.iaload, 1) := by decide +kernel
theorem dX12_fade_29 : decode cX12_fade 29 = .ok (.istore_n 3, 1) := by decide +kernel
theorem dX12_fade_30 : decode cX12_fade 30 = .ok (.aload_n 0, 1) := by decide +kernel
theorem dX12_fade_31 : decode cX12_fade 31 = .ok (.getfield 19, 3) := by decide +kernel
theorem dX12_fade_34 : decode cX12_fade 34 = .ok (.iload_n 1, 1) := by decide +kernel
theorem dX12_fade_35 : decode cX12_fade 35 = .ok (.iload_n 2, 1) := by decide +kernel
theorem dX12_fade_36 : decode cX12_fade 36 = .ok (.iastore, 1) := by decide +kernel
theorem dX12_fade_37 : decode cX12_fade 37 = .ok (.iload_n 3, 1) := by decide +kernel
theorem dX12_fade_38 : decode cX12_fade 38 = .ok (.ireturn, 1) := by decide +kernel
theorem dX12_coat_0 : decode cX12_coat 0 = .ok (.iload_n 1, 1) := by decide +kernel
theorem dX12_coat_1 : decode cX12_coat 1 = .ok (.iconst 0, 1) := by decide +kernel
theorem dX12_coat_2 : decode cX12_coat 2 = .ok (.iconst 5, 1) := by decide +kernel
theorem dX12_coat_3 : decode cX12_coat 3 = .ok (.invokestatic 109, 3) := by decide +kernel
theorem dX12_coat_6 : decode cX12_coat 6 = .ok (.ifCond .eq 27, 3) := by decide +kernel
theorem dX12_coat_9 : decode cX12_coat 9 = .ok (.iload_n 2, 1) := by decide +kernel
theorem dX12_coat_10 : decode cX12_coat 10 = .ok (.iconst 1, 1) := by decide +kernel
theorem dX12_coat_11 : decode cX12_coat 11 = .ok (.bipush 9, 2) := by decide +kernel
theorem dX12_coat_13 : decode cX12_coat 13 = .ok (.invokestatic 109, 3) := by decide +kernel
theorem dX12_coat_16 : decode cX12_coat 16 = .ok (.ifCond .eq 17, 3) := by decide +kernel
theorem dX12_coat_19 : decode cX12_coat 19 = .ok (.iload_n 3, 1) := by decide +kernel
theorem dX12_coat_20 : decode cX12_coat 20 = .ok (.ifCond .lt 13, 3) := by decide +kernel
theorem dX12_coat_23 : decode cX12_coat 23 = .ok (.iload_n 3, 1) := by decide +kernel
theorem dX12_coat_24 : decode cX12_coat 24 = .ok (.sipush 1000, 3) := by decide +kernel
theorem dX12_coat_27 : decode cX12_coat 27 = .ok (.idiv, 1) := by decide +kernel
theorem dX12_coat_28 : decode cX12_coat 28 = .ok (.bipush 20, 2) := by decide +kernel
theorem dX12_coat_30 : decode cX12_coat 30 = .ok (.if_icmp .le 6, 3) := by decide +kernel
theorem dX12_coat_33 : decode cX12_coat 33 = .ok (.bipush (-2), 2) := by decide +kernel
theorem dX12_coat_35 : decode cX12_coat 35 = .ok (.ireturn, 1) := by decide +kernel
theorem dX12_coat_36 : decode cX12_coat 36 = .ok (.aload_n 0, 1) := by decide +kernel
theorem dX12_coat_37 : decode cX12_coat 37 = .ok (.getfield 113, 3) := by decide +kernel
theorem dX12_coat_40 : decode cX12_coat 40 = .ok (.bipush 8, 2) := by decide +kernel
theorem dX12_coat_42 : decode cX12_coat 42 = .ok (.if_icmp .ne 6, 3) := by decide +kernel
theorem dX12_coat_45 : decode cX12_coat 45 = .ok (.bipush (-4), 2) := by decide +kernel
theorem dX12_coat_47 : decode cX12_coat 47 = .ok (.ireturn, 1) := by decide +kernel
theorem dX12_coat_48 : decode cX12_coat 48 = .ok (.aload_n 0, 1) := by decide +kernel
theorem dX12_coat_49 : decode cX12_coat 49 = .ok (.getfield 22, 3) := by decide +kernel
theorem dX12_coat_52 : decode cX12_coat 52 = .ok (.aload_n 0, 1) := by decide +kernel
theorem dX12_coat_53 : decode cX12_coat 53 = .ok (.getfield 113, 3) := by decide +kernel
theorem dX12_coat_56 : decode cX12_coat 56 = .ok (.iload_n 1, 1) := by decide +kernel
theorem dX12_coat_57 : decode cX12_coat 57 = .ok (.iastore, 1) := by decide +kernel
theorem dX12_coat_58 : decode cX12_coat 58 = .ok (.aload_n 0, 1) := by decide +kernel
theorem dX12_coat_59 : decode cX12_coat 59 = .ok (.getfield 25, 3) := by decide +kernel
theorem dX12_coat_62 : decode cX12_coat 62 = .ok (.aload_n 0, 1) := by decide +kernel
theorem dX12_coat_63 : decode cX12_coat 63 = .ok (.getfield 113, 3) := by decide +kernel
theorem dX12_coat_66 : decode cX12_coat 66 = .ok (.iload_n 2, 1) := by decide +kernel
theorem dX12_coat_67 : decode cX12_coat 67 = .ok (.iastore, 1) := by decide +kernel
theorem dX12_coat_68 : decode cX12_coat 68 = .ok (.aload_n 0, 1) := by decide +kernel
theorem dX12_coat_69 : decode cX12_coat 69 = .ok (.getfield 28, 3) := by decide +kernel
theorem dX12_coat_72 : decode cX12_coat 72 = .ok (.aload_n 0, 1) := by decide +kernel
theorem dX12_coat_73 : decode cX12_coat 73 = .ok (.getfield 113, 3) := by decide +kernel
theorem dX12_coat_76 : decode cX12_coat 76 = .ok (.iload_n 3, 1) := by decide +kernel
theorem dX12_coat_77 : decode cX12_coat 77 = .ok (.sipush 1000, 3) := by decide +kernel
theorem dX12_coat_80 : decode cX12_coat 80 = .ok (.idiv, 1) := by decide +kernel
theorem dX12_coat_81 : decode cX12_coat 81 = .ok (.iastore, 1) := by decide +kernel
theorem dX12_coat_82 : decode cX12_coat 82 = .ok (.aload_n 0, 1) := by decide +kernel
theorem dX12_coat_83 : decode cX12_coat 83 = .ok (.getfield 31, 3) := by decide +kernel
theorem dX12_coat_86 : decode cX12_coat 86 = .ok (.aload_n 0, 1) := by decide +kernel
theorem dX12_coat_87 : decode cX12_coat 87 = .ok (.getfield 113, 3) := by decide +kernel
theorem dX12_coat_90 : decode cX12_coat 90 = .ok (.iload_n 3, 1) := by decide +kernel
theorem dX12_coat_91 : decode cX12_coat 91 = .ok (.sipush 1000, 3) := by decide +kernel
theorem dX12_coat_94 : decode cX12_coat 94 = .ok (.irem, 1) := by decide +kernel
theorem dX12_coat_95 : decode cX12_coat 95 = .ok (.iastore, 1) := by decide +kernel
theorem dX12_coat_96 : decode cX12_coat 96 = .ok (.aload_n 0, 1) := by decide +kernel
theorem dX12_coat_97 : decode cX12_coat 97 = .ok (.getfield 34, 3) := by decide +kernel
theorem dX12_coat_100 : decode cX12_coat 100 = .ok (.aload_n 0, 1) := by decide +kernel
theorem dX12_coat_101 : decode cX12_coat 101 = .ok (.getfield 113, 3) := by decide +kernel
theorem dX12_coat_104 : decode cX12_coat 104 = .ok (.iconst 0, 1) := by decide +kernel
theorem dX12_coat_105 : decode cX12_coat 105 = .ok (.bastore, 1) := by decide +kernel
theorem dX12_coat_106 : decode cX12_coat 106 = .ok (.aload_n 0, 1) := by decide +kernel
theorem dX12_coat_107 : decode cX12_coat 107 = .ok (.dup, 1) := by decide +kernel
theorem dX12_coat_108 : decode cX12_coat 108 = .ok (.getfield 113, 3) := by decide +kernel
theorem dX12_coat_111 : decode cX12_coat 111 = .ok (.iconst 1, 1) := by decide +kernel
theorem dX12_coat_112 : decode cX12_coat 112 = .ok (.iadd, 1) := by decide +kernel
theorem dX12_coat_113 : decode cX12_coat 113 = .ok (.putfield 113, 3) := by decide +kernel
theorem dX12_coat_116 : decode cX12_coat 116 = .ok (.aload_n 0, 1) := by decide +kernel
theorem dX12_coat_117 : decode cX12_coat 117 = .ok (.getfield 113, 3) := by decide +kernel
theorem dX12_coat_120 : decode cX12_coat 120 = .ok (.iconst 1, 1) := by decide +kernel
theorem dX12_coat_121 : decode cX12_coat 121 = .ok (.isub, 1) := by decide +kernel
theorem dX12_coat_122 : decode cX12_coat 122 = .ok (.ireturn, 1) := by decide +kernel
theorem dX12_shadeOf_0 : decode cX12_shadeOf 0 = .ok (.aload_n 0, 1) := by decide +kernel
theorem dX12_shadeOf_1 : decode cX12_shadeOf 1 = .ok (.getfield 13, 3) := by decide +kernel
theorem dX12_shadeOf_4 : decode cX12_shadeOf 4 = .ok (.iload_n 1, 1) := by decide +kernel
theorem dX12_shadeOf_5 : decode cX12_shadeOf 5 = .ok (.iaload, 1) := by decide +kernel
theorem dX12_shadeOf_6 : decode cX12_shadeOf 6 = .ok (.aload_n 0, 1) := by decide +kernel
theorem dX12_shadeOf_7 : decode cX12_shadeOf 7 = .ok (.getfield 19, 3) := by decide +kernel
theorem dX12_shadeOf_10 : decode cX12_shadeOf 10 = .ok (.aload_n 0, 1) := by decide +kernel
theorem dX12_shadeOf_11 : decode cX12_shadeOf 11 = .ok (.getfield 16, 3) := by decide +kernel
theorem dX12_shadeOf_14 : decode cX12_shadeOf 14 = .ok (.iload_n 1, 1) := by decide +kernel
theorem dX12_shadeOf_15 : decode cX12_shadeOf 15 = .ok (.iaload, 1) := by decide +kernel
theorem dX12_shadeOf_16 : decode cX12_shadeOf 16 = .ok (.iaload, 1) := by decide +kernel
theorem dX12_shadeOf_17 : decode cX12_shadeOf 17 = .ok (.isub, 1) := by decide +kernel
theorem dX12_shadeOf_18 : decode cX12_shadeOf 18 = .ok (.bipush 99, 2) := by decide +kernel
theorem dX12_shadeOf_20 : decode cX12_shadeOf 20 = .ok (.invokestatic 120, 3) := by decide +kernel
theorem dX12_shadeOf_23 : decode cX12_shadeOf 23 = .ok (.ireturn, 1) := by decide +kernel
theorem dX12_takes_0 : decode cX12_takes 0 = .ok (.aload_n 0, 1) := by decide +kernel
theorem dX12_takes_1 : decode cX12_takes 1 = .ok (.getfield 22, 3) := by decide +kernel
theorem dX12_takes_4 : decode cX12_takes 4 = .ok (.iload_n 1, 1) := by decide +kernel
theorem dX12_takes_5 : decode cX12_takes 5 = .ok (.iaload, 1) := by decide +kernel
theorem dX12_takes_6 : decode cX12_takes 6 = .ok (.iconst 3, 1) := by decide +kernel
theorem dX12_takes_7 : decode cX12_takes 7 = .ok (.if_icmp .ne 19, 3) := by decide +kernel
theorem dX12_takes_10 : decode cX12_takes 10 = .ok (.aload_n 0, 1) := by decide +kernel
theorem dX12_takes_11 : decode cX12_takes 11 = .ok (.getfield 28, 3) := by decide +kernel
theorem dX12_takes_14 : decode cX12_takes 14 = .ok (.iload_n 1, 1) := by decide +kernel
theorem dX12_takes_15 : decode cX12_takes 15 = .ok (.iaload, 1) := by decide +kernel
theorem dX12_takes_16 : decode cX12_takes 16 = .ok (.iload_n 2, 1) := by decide +kernel
theorem dX12_takes_17 : decode cX12_takes 17 = .ok (.ishr, 1) := by decide +kernel
theorem dX12_takes_18 : decode cX12_takes 18 = .ok (.iconst 1, 1) := by decide +kernel
theorem dX12_takes_19 : decode cX12_takes 19 = .ok (.iand, 1) := by decide +kernel
theorem dX12_takes_20 : decode cX12_takes 20 = .ok (.iconst 1, 1) := by decide +kernel
theorem dX12_takes_21 : decode cX12_takes 21 = .ok (.if_icmp .ne 5, 3) := by decide +kernel
theorem dX12_takes_24 : decode cX12_takes 24 = .ok (.iconst 0, 1) := by decide +kernel
theorem dX12_takes_25 : decode cX12_takes 25 = .ok (.ireturn, 1) := by decide +kernel
theorem dX12_takes_26 : decode cX12_takes 26 = .ok (.iload_n 2, 1) := by decide +kernel
theorem dX12_takes_27 : decode cX12_takes 27 = .ok (.iconst 2, 1) := by decide +kernel
theorem dX12_takes_28 : decode cX12_takes 28 = .ok (.if_icmp .ge 14, 3) := by decide +kernel
theorem dX12_takes_31 : decode cX12_takes 31 = .ok (.aload_n 0, 1) := by decide +kernel
theorem dX12_takes_32 : decode cX12_takes 32 = .ok (.getfield 25, 3) := by decide +kernel
theorem dX12_takes_35 : decode cX12_takes 35 = .ok (.iload_n 1, 1) := by decide +kernel
theorem dX12_takes_36 : decode cX12_takes 36 = .ok (.iaload, 1) := by decide +kernel
theorem dX12_takes_37 : decode cX12_takes 37 = .ok (.iconst 1, 1) := by decide +kernel
theorem dX12_takes_38 : decode cX12_takes 38 = .ok (.iadd, 1) := by decide +kernel
theorem dX12_takes_39 : decode cX12_takes 39 = .ok (.goto 20, 3) := by decide +kernel
theorem dX12_takes_42 : decode cX12_takes 42 = .ok (.iload_n 2, 1) := by decide +kernel
theorem dX12_takes_43 : decode cX12_takes 43 = .ok (.iconst 4, 1) := by decide +kernel
theorem dX12_takes_44 : decode cX12_takes 44 = .ok (.if_icmp .ge 14, 3) := by decide +kernel
theorem dX12_takes_47 : decode cX12_takes 47 = .ok (.iconst 2, 1) := by decide +kernel
theorem dX12_takes_48 : decode cX12_takes 48 = .ok (.aload_n 0, 1) := by decide +kernel
theorem dX12_takes_49 : decode cX12_takes 49 = .ok (.getfield 25, 3) := by decide +kernel
theorem dX12_takes_52 : decode cX12_takes 52 = .ok (.iload_n 1, 1) := by decide +kernel
theorem dX12_takes_53 : decode cX12_takes 53 = .ok (.iaload, 1) := by decide +kernel
theorem dX12_takes_54 : decode cX12_takes 54 = .ok (.imul, 1) := by decide +kernel
theorem dX12_takes_55 : decode cX12_takes 55 = .ok (.goto 4, 3) := by decide +kernel
theorem dX12_takes_58 : decode cX12_takes 58 = .ok (.iconst 1, 1) := by decide +kernel
theorem dX12_takes_59 : decode cX12_takes 59 = .ok (.istore_n 3, 1) := by decide +kernel
theorem dX12_takes_60 : decode cX12_takes 60 = .ok (.aload_n 0, 1) := by decide +kernel
theorem dX12_takes_61 : decode cX12_takes 61 = .ok (.getfield 22, 3) := by decide +kernel
theorem dX12_takes_64 : decode cX12_takes 64 = .ok (.iload_n 1, 1) := by decide +kernel
theorem dX12_takes_65 : decode cX12_takes 65 = .ok (.iaload, 1) := by decide +kernel
theorem dX12_takes_66 : decode cX12_takes 66 = .ok (.iconst 5, 1) := by decide +kernel
theorem dX12_takes_67 : decode cX12_takes 67 = .ok (.if_icmp .ne 9, 3) := by decide +kernel
theorem dX12_takes_70 : decode cX12_takes 70 = .ok (.iload_n 3, 1) := by decide +kernel
theorem dX12_takes_71 : decode cX12_takes 71 = .ok (.iconst 1, 1) := by decide +kernel
theorem dX12_takes_72 : decode cX12_takes 72 = .ok (.iadd, 1) := by decide +kernel
theorem dX12_takes_73 : decode cX12_takes 73 = .ok (.goto 4, 3) := by decide +kernel
theorem dX12_takes_76 : decode cX12_takes 76 = .ok (.iload_n 3, 1) := by decide +kernel
theorem dX12_takes_77 : decode cX12_takes 77 = .ok (.ireturn, 1) := by decide +kernel
theorem dX12_takesAll_0 : decode cX12_takesAll 0 = .ok (.iconst 0, 1) := by decide +kernel
theorem dX12_takesAll_1 : decode cX12_takesAll 1 = .ok (.istore_n 2, 1) := by decide +kernel
theorem dX12_takesAll_2 : decode cX12_takesAll 2 = .ok (.iconst 0, 1) := by decide +kernel
theorem dX12_takesAll_3 : decode cX12_takesAll 3 = .ok (.istore_n 3, 1) := by decide +kernel
theorem dX12_takesAll_4 : decode cX12_takesAll 4 = .ok (.iload_n 3, 1) := by decide +kernel
theorem dX12_takesAll_5 : decode cX12_takesAll 5 = .ok (.iconst 5, 1) := by decide +kernel
theorem dX12_takesAll_6 : decode cX12_takesAll 6 = .ok (.if_icmp .ge 18, 3) := by decide +kernel
theorem dX12_takesAll_9 : decode cX12_takesAll 9 = .ok (.iload_n 2, 1) := by decide +kernel
theorem dX12_takesAll_10 : decode cX12_takesAll 10 = .ok (.aload_n 0, 1) := by decide +kernel
theorem dX12_takesAll_11 : decode cX12_takesAll 11 = .ok (.iload_n 1, 1) := by decide +kernel
theorem dX12_takesAll_12 : decode cX12_takesAll 12 = .ok (.iload_n 3, 1) := by decide +kernel
theorem dX12_takesAll_13 : decode cX12_takesAll 13 = .ok (.invokevirtual 124, 3) := by decide +kernel
theorem dX12_takesAll_16 : decode cX12_takesAll 16 = .ok (.iadd, 1) := by decide +kernel
theorem dX12_takesAll_17 : decode cX12_takesAll 17 = .ok (.istore_n 2, 1) := by decide +kernel
theorem dX12_takesAll_18 : decode cX12_takesAll 18 = .ok (.iinc 3 1, 3) := by decide +kernel
theorem dX12_takesAll_21 : decode cX12_takesAll 21 = .ok (.goto (-17), 3) := by decide +kernel
theorem dX12_takesAll_24 : decode cX12_takesAll 24 = .ok (.iload_n 2, 1) := by decide +kernel
theorem dX12_takesAll_25 : decode cX12_takesAll 25 = .ok (.ireturn, 1) := by decide +kernel
theorem dX12_bears_0 : decode cX12_bears 0 = .ok (.iload_n 2, 1) := by decide +kernel
theorem dX12_bears_1 : decode cX12_bears 1 = .ok (.ifCond .ne 7, 3) := by decide +kernel
theorem dX12_bears_4 : decode cX12_bears 4 = .ok (.iconst 0, 1) := by decide +kernel
theorem dX12_bears_5 : decode cX12_bears 5 = .ok (.goto 13, 3) := by decide +kernel
theorem dX12_bears_8 : decode cX12_bears 8 = .ok (.iload_n 2, 1) := by decide +kernel
theorem dX12_bears_9 : decode cX12_bears 9 = .ok (.iconst 3, 1) := by decide +kernel
theorem dX12_bears_10 : decode cX12_bears 10 = .ok (.if_icmp .ge 7, 3) := by decide +kernel
theorem dX12_bears_13 : decode cX12_bears 13 = .ok (.iconst 2, 1) := by decide +kernel
theorem dX12_bears_14 : decode cX12_bears 14 = .ok (.goto 4, 3) := by decide +kernel
theorem dX12_bears_17 : decode cX12_bears 17 = .ok (.iconst 4, 1) := by decide +kernel
theorem dX12_bears_18 : decode cX12_bears 18 = .ok (.istore_n 3, 1) := by decide +kernel
theorem dX12_bears_19 : decode cX12_bears 19 = .ok (.aload_n 0, 1) := by decide +kernel
theorem dX12_bears_20 : decode cX12_bears 20 = .ok (.getfield 22, 3) := by decide +kernel
theorem dX12_bears_23 : decode cX12_bears 23 = .ok (.iload_n 1, 1) := by decide +kernel
theorem dX12_bears_24 : decode cX12_bears 24 = .ok (.iaload, 1) := by decide +kernel
theorem dX12_bears_25 : decode cX12_bears 25 = .ok (.tableswitch 61 1 5 #[35, 44, 61, 48, 59], 35) := by decide +kernel
theorem dX12_bears_60 : decode cX12_bears 60 = .ok (.iload_n 3, 1) := by decide +kernel
theorem dX12_bears_61 : decode cX12_bears 61 = .ok (.aload_n 0, 1) := by decide +kernel
theorem dX12_bears_62 : decode cX12_bears 62 = .ok (.getfield 28, 3) := by decide +kernel
theorem dX12_bears_65 : decode cX12_bears 65 = .ok (.iload_n 1, 1) := by decide +kernel
theorem dX12_bears_66 : decode cX12_bears 66 = .ok (.iaload, 1) := by decide +kernel
theorem dX12_bears_67 : decode cX12_bears 67 = .ok (.iadd, 1) := by decide +kernel
theorem dX12_bears_68 : decode cX12_bears 68 = .ok (.ireturn, 1) := by decide +kernel
theorem dX12_bears_69 : decode cX12_bears 69 = .ok (.iload_n 3, 1) := by decide +kernel
theorem dX12_bears_70 : decode cX12_bears 70 = .ok (.iconst 1, 1) := by decide +kernel
theorem dX12_bears_71 : decode cX12_bears 71 = .ok (.iadd, 1) := by decide +kernel
theorem dX12_bears_72 : decode cX12_bears 72 = .ok (.ireturn, 1) := by decide +kernel
theorem dX12_bears_73 : decode cX12_bears 73 = .ok (.iload_n 3, 1) := by decide +kernel
theorem dX12_bears_74 : decode cX12_bears 74 = .ok (.aload_n 0, 1) := by decide +kernel
theorem dX12_bears_75 : decode cX12_bears 75 = .ok (.getfield 28, 3) := by decide +kernel
theorem dX12_bears_78 : decode cX12_bears 78 = .ok (.iload_n 1, 1) := by decide +kernel
theorem dX12_bears_79 : decode cX12_bears 79 = .ok (.iaload, 1) := by decide +kernel
theorem dX12_bears_80 : decode cX12_bears 80 = .ok (.iadd, 1) := by decide +kernel
theorem dX12_bears_81 : decode cX12_bears 81 = .ok (.iconst 2, 1) := by decide +kernel
theorem dX12_bears_82 : decode cX12_bears 82 = .ok (.idiv, 1) := by decide +kernel
theorem dX12_bears_83 : decode cX12_bears 83 = .ok (.ireturn, 1) := by decide +kernel
theorem dX12_bears_84 : decode cX12_bears 84 = .ok (.iload_n 3, 1) := by decide +kernel
theorem dX12_bears_85 : decode cX12_bears 85 = .ok (.ireturn, 1) := by decide +kernel
theorem dX12_bears_86 : decode cX12_bears 86 = .ok (.iload_n 3, 1) := by decide +kernel
theorem dX12_bears_87 : decode cX12_bears 87 = .ok (.ireturn, 1) := by decide +kernel
theorem dX12_brings_0 : decode cX12_brings 0 = .ok (.aload_n 0, 1) := by decide +kernel
theorem dX12_brings_1 : decode cX12_brings 1 = .ok (.getfield 22, 3) := by decide +kernel
theorem dX12_brings_4 : decode cX12_brings 4 = .ok (.iload_n 1, 1) := by decide +kernel
theorem dX12_brings_5 : decode cX12_brings 5 = .ok (.iaload, 1) := by decide +kernel
theorem dX12_brings_6 : decode cX12_brings 6 = .ok (.tableswitch 78 1 5 #[34, 78, 78, 48, 64], 34) := by decide +kernel
theorem dX12_brings_40 : decode cX12_brings 40 = .ok (.aload_n 0, 1) := by decide +kernel
theorem dX12_brings_41 : decode cX12_brings 41 = .ok (.getfield 31, 3) := by decide +kernel
theorem dX12_brings_44 : decode cX12_brings 44 = .ok (.iload_n 1, 1) := by decide +kernel
theorem dX12_brings_45 : decode cX12_brings 45 = .ok (.iaload, 1) := by decide +kernel
theorem dX12_brings_46 : decode cX12_brings 46 = .ok (.aload_n 0, 1) := by decide +kernel
theorem dX12_brings_47 : decode cX12_brings 47 = .ok (.getfield 28, 3) := by decide +kernel
theorem dX12_brings_50 : decode cX12_brings 50 = .ok (.iload_n 1, 1) := by decide +kernel
theorem dX12_brings_51 : decode cX12_brings 51 = .ok (.iaload, 1) := by decide +kernel
theorem dX12_brings_52 : decode cX12_brings 52 = .ok (.isub, 1) := by decide +kernel
theorem dX12_brings_53 : decode cX12_brings 53 = .ok (.ireturn, 1) := by decide +kernel
theorem dX12_brings_54 : decode cX12_brings 54 = .ok (.iconst 2, 1) := by decide +kernel
theorem dX12_brings_55 : decode cX12_brings 55 = .ok (.aload_n 0, 1) := by decide +kernel
theorem dX12_brings_56 : decode cX12_brings 56 = .ok (.getfield 31, 3) := by decide +kernel
theorem dX12_brings_59 : decode cX12_brings 59 = .ok (.iload_n 1, 1) := by decide +kernel
theorem dX12_brings_60 : decode cX12_brings 60 = .ok (.iaload, 1) := by decide +kernel
theorem dX12_brings_61 : decode cX12_brings 61 = .ok (.aload_n 0, 1) := by decide +kernel
theorem dX12_brings_62 : decode cX12_brings 62 = .ok (.getfield 28, 3) := by decide +kernel
theorem dX12_brings_65 : decode cX12_brings 65 = .ok (.iload_n 1, 1) := by decide +kernel
theorem dX12_brings_66 : decode cX12_brings 66 = .ok (.iaload, 1) := by decide +kernel
theorem dX12_brings_67 : decode cX12_brings 67 = .ok (.isub, 1) := by decide +kernel
theorem dX12_brings_68 : decode cX12_brings 68 = .ok (.imul, 1) := by decide +kernel
theorem dX12_brings_69 : decode cX12_brings 69 = .ok (.ireturn, 1) := by decide +kernel
theorem dX12_brings_70 : decode cX12_brings 70 = .ok (.aload_n 0, 1) := by decide +kernel
theorem dX12_brings_71 : decode cX12_brings 71 = .ok (.getfield 31, 3) := by decide +kernel
theorem dX12_brings_74 : decode cX12_brings 74 = .ok (.iload_n 1, 1) := by decide +kernel
theorem dX12_brings_75 : decode cX12_brings 75 = .ok (.iaload, 1) := by decide +kernel
theorem dX12_brings_76 : decode cX12_brings 76 = .ok (.aload_n 0, 1) := by decide +kernel
theorem dX12_brings_77 : decode cX12_brings 77 = .ok (.getfield 28, 3) := by decide +kernel
theorem dX12_brings_80 : decode cX12_brings 80 = .ok (.iload_n 1, 1) := by decide +kernel
theorem dX12_brings_81 : decode cX12_brings 81 = .ok (.iaload, 1) := by decide +kernel
theorem dX12_brings_82 : decode cX12_brings 82 = .ok (.iadd, 1) := by decide +kernel
theorem dX12_brings_83 : decode cX12_brings 83 = .ok (.ireturn, 1) := by decide +kernel
theorem dX12_brings_84 : decode cX12_brings 84 = .ok (.aload_n 0, 1) := by decide +kernel
theorem dX12_brings_85 : decode cX12_brings 85 = .ok (.getfield 31, 3) := by decide +kernel
theorem dX12_brings_88 : decode cX12_brings 88 = .ok (.iload_n 1, 1) := by decide +kernel
theorem dX12_brings_89 : decode cX12_brings 89 = .ok (.iaload, 1) := by decide +kernel
theorem dX12_brings_90 : decode cX12_brings 90 = .ok (.ireturn, 1) := by decide +kernel
theorem dX12_oneOf_0 : decode cX12_oneOf 0 = .ok (.iload_n 0, 1) := by decide +kernel
theorem dX12_oneOf_1 : decode cX12_oneOf 1 = .ok (.iconst 2, 1) := by decide +kernel
theorem dX12_oneOf_2 : decode cX12_oneOf 2 = .ok (.if_icmp .ge 7, 3) := by decide +kernel
theorem dX12_oneOf_5 : decode cX12_oneOf 5 = .ok (.iconst 0, 1) := by decide +kernel
theorem dX12_oneOf_6 : decode cX12_oneOf 6 = .ok (.goto 22, 3) := by decide +kernel
theorem dX12_oneOf_9 : decode cX12_oneOf 9 = .ok (.iload_n 0, 1) := by decide +kernel
theorem dX12_oneOf_10 : decode cX12_oneOf 10 = .ok (.iconst 2, 1) := by decide +kernel
theorem dX12_oneOf_11 : decode cX12_oneOf 11 = .ok (.if_icmp .ne 7, 3) := by decide +kernel
theorem dX12_oneOf_14 : decode cX12_oneOf 14 = .ok (.iconst 1, 1) := by decide +kernel
theorem dX12_oneOf_15 : decode cX12_oneOf 15 = .ok (.goto 13, 3) := by decide +kernel
theorem dX12_oneOf_18 : decode cX12_oneOf 18 = .ok (.iload_n 0, 1) := by decide +kernel
theorem dX12_oneOf_19 : decode cX12_oneOf 19 = .ok (.iconst 5, 1) := by decide +kernel
theorem dX12_oneOf_20 : decode cX12_oneOf 20 = .ok (.if_icmp .ne 7, 3) := by decide +kernel
theorem dX12_oneOf_23 : decode cX12_oneOf 23 = .ok (.iconst 3, 1) := by decide +kernel
theorem dX12_oneOf_24 : decode cX12_oneOf 24 = .ok (.goto 4, 3) := by decide +kernel
theorem dX12_oneOf_27 : decode cX12_oneOf 27 = .ok (.iconst 2, 1) := by decide +kernel
theorem dX12_oneOf_28 : decode cX12_oneOf 28 = .ok (.ireturn, 1) := by decide +kernel
theorem dX12_otherOf_0 : decode cX12_otherOf 0 = .ok (.iload_n 0, 1) := by decide +kernel
theorem dX12_otherOf_1 : decode cX12_otherOf 1 = .ok (.ifCond .ne 7, 3) := by decide +kernel
theorem dX12_otherOf_4 : decode cX12_otherOf 4 = .ok (.iconst 1, 1) := by decide +kernel
theorem dX12_otherOf_5 : decode cX12_otherOf 5 = .ok (.goto 22, 3) := by decide +kernel
theorem dX12_otherOf_8 : decode cX12_otherOf 8 = .ok (.iload_n 0, 1) := by decide +kernel
theorem dX12_otherOf_9 : decode cX12_otherOf 9 = .ok (.iconst 3, 1) := by decide +kernel
theorem dX12_otherOf_10 : decode cX12_otherOf 10 = .ok (.if_icmp .ge 7, 3) := by decide +kernel
theorem dX12_otherOf_13 : decode cX12_otherOf 13 = .ok (.iconst 2, 1) := by decide +kernel
theorem dX12_otherOf_14 : decode cX12_otherOf 14 = .ok (.goto 13, 3) := by decide +kernel
theorem dX12_otherOf_17 : decode cX12_otherOf 17 = .ok (.iload_n 0, 1) := by decide +kernel
theorem dX12_otherOf_18 : decode cX12_otherOf 18 = .ok (.iconst 3, 1) := by decide +kernel
theorem dX12_otherOf_19 : decode cX12_otherOf 19 = .ok (.if_icmp .ne 7, 3) := by decide +kernel
theorem dX12_otherOf_22 : decode cX12_otherOf 22 = .ok (.iconst 3, 1) := by decide +kernel
theorem dX12_otherOf_23 : decode cX12_otherOf 23 = .ok (.goto 4, 3) := by decide +kernel
theorem dX12_otherOf_26 : decode cX12_otherOf 26 = .ok (.iconst 4, 1) := by decide +kernel
theorem dX12_otherOf_27 : decode cX12_otherOf 27 = .ok (.ireturn, 1) := by decide +kernel
theorem dX12_told_0 : decode cX12_told 0 = .ok (.aload_n 0, 1) := by decide +kernel
theorem dX12_told_1 : decode cX12_told 1 = .ok (.iload_n 1, 1) := by decide +kernel
theorem dX12_told_2 : decode cX12_told 2 = .ok (.invokevirtual 127, 3) := by decide +kernel
theorem dX12_told_5 : decode cX12_told 5 = .ok (.ifCond .ne 6, 3) := by decide +kernel
theorem dX12_told_8 : decode cX12_told 8 = .ok (.bipush (-5), 2) := by decide +kernel
theorem dX12_told_10 : decode cX12_told 10 = .ok (.ireturn, 1) := by decide +kernel
theorem dX12_told_11 : decode cX12_told 11 = .ok (.iload_n 2, 1) := by decide +kernel
theorem dX12_told_12 : decode cX12_told 12 = .ok (.bipush 10, 2) := by decide +kernel
theorem dX12_told_14 : decode cX12_told 14 = .ok (.bipush 14, 2) := by decide +kernel
theorem dX12_told_16 : decode cX12_told 16 = .ok (.invokestatic 109, 3) := by decide +kernel
theorem dX12_told_19 : decode cX12_told 19 = .ok (.ifCond .eq 13, 3) := by decide +kernel
theorem dX12_told_22 : decode cX12_told 22 = .ok (.aload_n 0, 1) := by decide +kernel
theorem dX12_told_23 : decode cX12_told 23 = .ok (.iload_n 1, 1) := by decide +kernel
theorem dX12_told_24 : decode cX12_told 24 = .ok (.iload_n 2, 1) := by decide +kernel
theorem dX12_told_25 : decode cX12_told 25 = .ok (.bipush 10, 2) := by decide +kernel
theorem dX12_told_27 : decode cX12_told 27 = .ok (.isub, 1) := by decide +kernel
theorem dX12_told_28 : decode cX12_told 28 = .ok (.invokevirtual 124, 3) := by decide +kernel
theorem dX12_told_31 : decode cX12_told 31 = .ok (.ireturn, 1) := by decide +kernel
theorem dX12_told_32 : decode cX12_told 32 = .ok (.iload_n 2, 1) := by decide +kernel
theorem dX12_told_33 : decode cX12_told 33 = .ok (.bipush 20, 2) := by decide +kernel
theorem dX12_told_35 : decode cX12_told 35 = .ok (.bipush 25, 2) := by decide +kernel
theorem dX12_told_37 : decode cX12_told 37 = .ok (.invokestatic 109, 3) := by decide +kernel
theorem dX12_told_40 : decode cX12_told 40 = .ok (.ifCond .eq 23, 3) := by decide +kernel
theorem dX12_told_43 : decode cX12_told 43 = .ok (.aload_n 0, 1) := by decide +kernel
theorem dX12_told_44 : decode cX12_told 44 = .ok (.iload_n 1, 1) := by decide +kernel
theorem dX12_told_45 : decode cX12_told 45 = .ok (.iload_n 2, 1) := by decide +kernel
theorem dX12_told_46 : decode cX12_told 46 = .ok (.bipush 20, 2) := by decide +kernel
theorem dX12_told_48 : decode cX12_told 48 = .ok (.isub, 1) := by decide +kernel
theorem dX12_told_49 : decode cX12_told 49 = .ok (.invokevirtual 130, 3) := by decide +kernel
theorem dX12_told_52 : decode cX12_told 52 = .ok (.aload_n 0, 1) := by decide +kernel
theorem dX12_told_53 : decode cX12_told 53 = .ok (.iload_n 1, 1) := by decide +kernel
theorem dX12_told_54 : decode cX12_told 54 = .ok (.iload_n 2, 1) := by decide +kernel
theorem dX12_told_55 : decode cX12_told 55 = .ok (.bipush 20, 2) := by decide +kernel
theorem dX12_told_57 : decode cX12_told 57 = .ok (.isub, 1) := by decide +kernel
theorem dX12_told_58 : decode cX12_told 58 = .ok (.invokevirtual 133, 3) := by decide +kernel
theorem dX12_told_61 : decode cX12_told 61 = .ok (.iadd, 1) := by decide +kernel
theorem dX12_told_62 : decode cX12_told 62 = .ok (.ireturn, 1) := by decide +kernel
theorem dX12_told_63 : decode cX12_told 63 = .ok (.iload_n 2, 1) := by decide +kernel
theorem dX12_told_64 : decode cX12_told 64 = .ok (.tableswitch 98 0 6 #[44, 51, 58, 65, 71, 77, 83], 44) := by decide +kernel
theorem dX12_told_108 : decode cX12_told 108 = .ok (.aload_n 0, 1) := by decide +kernel
theorem dX12_told_109 : decode cX12_told 109 = .ok (.getfield 22, 3) := by decide +kernel
theorem dX12_told_112 : decode cX12_told 112 = .ok (.iload_n 1, 1) := by decide +kernel
theorem dX12_told_113 : decode cX12_told 113 = .ok (.iaload, 1) := by decide +kernel
theorem dX12_told_114 : decode cX12_told 114 = .ok (.ireturn, 1) := by decide +kernel
theorem dX12_told_115 : decode cX12_told 115 = .ok (.aload_n 0, 1) := by decide +kernel
theorem dX12_told_116 : decode cX12_told 116 = .ok (.getfield 25, 3) := by decide +kernel
theorem dX12_told_119 : decode cX12_told 119 = .ok (.iload_n 1, 1) := by decide +kernel
theorem dX12_told_120 : decode cX12_told 120 = .ok (.iaload, 1) := by decide +kernel
theorem dX12_told_121 : decode cX12_told 121 = .ok (.ireturn, 1) := by decide +kernel
theorem dX12_told_122 : decode cX12_told 122 = .ok (.aload_n 0, 1) := by decide +kernel
theorem dX12_told_123 : decode cX12_told 123 = .ok (.getfield 28, 3) := by decide +kernel
theorem dX12_told_126 : decode cX12_told 126 = .ok (.iload_n 1, 1) := by decide +kernel
theorem dX12_told_127 : decode cX12_told 127 = .ok (.iaload, 1) := by decide +kernel
theorem dX12_told_128 : decode cX12_told 128 = .ok (.ireturn, 1) := by decide +kernel
theorem dX12_told_129 : decode cX12_told 129 = .ok (.aload_n 0, 1) := by decide +kernel
theorem dX12_told_130 : decode cX12_told 130 = .ok (.iload_n 1, 1) := by decide +kernel
theorem dX12_told_131 : decode cX12_told 131 = .ok (.invokevirtual 136, 3) := by decide +kernel
theorem dX12_told_134 : decode cX12_told 134 = .ok (.ireturn, 1) := by decide +kernel
theorem dX12_told_135 : decode cX12_told 135 = .ok (.aload_n 0, 1) := by decide +kernel
theorem dX12_told_136 : decode cX12_told 136 = .ok (.iload_n 1, 1) := by decide +kernel
theorem dX12_told_137 : decode cX12_told 137 = .ok (.invokevirtual 140, 3) := by decide +kernel
theorem dX12_told_140 : decode cX12_told 140 = .ok (.ireturn, 1) := by decide +kernel
theorem dX12_told_141 : decode cX12_told 141 = .ok (.aload_n 0, 1) := by decide +kernel
theorem dX12_told_142 : decode cX12_told 142 = .ok (.iload_n 1, 1) := by decide +kernel
theorem dX12_told_143 : decode cX12_told 143 = .ok (.invokevirtual 143, 3) := by decide +kernel
theorem dX12_told_146 : decode cX12_told 146 = .ok (.ireturn, 1) := by decide +kernel
theorem dX12_told_147 : decode cX12_told 147 = .ok (.aload_n 0, 1) := by decide +kernel
theorem dX12_told_148 : decode cX12_told 148 = .ok (.getfield 34, 3) := by decide +kernel
theorem dX12_told_151 : decode cX12_told 151 = .ok (.iload_n 1, 1) := by decide +kernel
theorem dX12_told_152 : decode cX12_told 152 = .ok (.baload, 1) := by decide +kernel
theorem dX12_told_153 : decode cX12_told 153 = .ok (.ifCond .eq 7, 3) := by decide +kernel
theorem dX12_told_156 : decode cX12_told 156 = .ok (.iconst 1, 1) := by decide +kernel
theorem dX12_told_157 : decode cX12_told 157 = .ok (.goto 4, 3) := by decide +kernel
theorem dX12_told_160 : decode cX12_told 160 = .ok (.iconst 0, 1) := by decide +kernel
theorem dX12_told_161 : decode cX12_told 161 = .ok (.ireturn, 1) := by decide +kernel
theorem dX12_told_162 : decode cX12_told 162 = .ok (.bipush (-5), 2) := by decide +kernel
theorem dX12_told_164 : decode cX12_told 164 = .ok (.ireturn, 1) := by decide +kernel
theorem dX12_hankTold_0 : decode cX12_hankTold 0 = .ok (.aload_n 0, 1) := by decide +kernel
theorem dX12_hankTold_1 : decode cX12_hankTold 1 = .ok (.iload_n 1, 1) := by decide +kernel
theorem dX12_hankTold_2 : decode cX12_hankTold 2 = .ok (.invokevirtual 116, 3) := by decide +kernel
theorem dX12_hankTold_5 : decode cX12_hankTold 5 = .ok (.ifCond .ne 8, 3) := by decide +kernel
theorem dX12_hankTold_8 : decode cX12_hankTold 8 = .ok (.bipush (-5), 2) := by decide +kernel
theorem dX12_hankTold_10 : decode cX12_hankTold 10 = .ok (.goto 45, 3) := by decide +kernel
theorem dX12_hankTold_13 : decode cX12_hankTold 13 = .ok (.iload_n 2, 1) := by decide +kernel
theorem dX12_hankTold_14 : decode cX12_hankTold 14 = .ok (.ifCond .ne 12, 3) := by decide +kernel
theorem dX12_hankTold_17 : decode cX12_hankTold 17 = .ok (.aload_n 0, 1) := by decide +kernel
theorem dX12_hankTold_18 : decode cX12_hankTold 18 = .ok (.getfield 7, 3) := by decide +kernel
theorem dX12_hankTold_21 : decode cX12_hankTold 21 = .ok (.iload_n 1, 1) := by decide +kernel
theorem dX12_hankTold_22 : decode cX12_hankTold 22 = .ok (.iaload, 1) := by decide +kernel
theorem dX12_hankTold_23 : decode cX12_hankTold 23 = .ok (.goto 32, 3) := by decide +kernel
theorem dX12_hankTold_26 : decode cX12_hankTold 26 = .ok (.iload_n 2, 1) := by decide +kernel
theorem dX12_hankTold_27 : decode cX12_hankTold 27 = .ok (.iconst 1, 1) := by decide +kernel
theorem dX12_hankTold_28 : decode cX12_hankTold 28 = .ok (.if_icmp .ne 11, 3) := by decide +kernel
theorem dX12_hankTold_31 : decode cX12_hankTold 31 = .ok (.aload_n 0, 1) := by decide +kernel
theorem dX12_hankTold_32 : decode cX12_hankTold 32 = .ok (.iload_n 1, 1) := by decide +kernel
theorem dX12_hankTold_33 : decode cX12_hankTold 33 = .ok (.invokevirtual 146, 3) := by decide +kernel
theorem dX12_hankTold_36 : decode cX12_hankTold 36 = .ok (.goto 19, 3) := by decide +kernel
theorem dX12_hankTold_39 : decode cX12_hankTold 39 = .ok (.iload_n 2, 1) := by decide +kernel
theorem dX12_hankTold_40 : decode cX12_hankTold 40 = .ok (.iconst 2, 1) := by decide +kernel
theorem dX12_hankTold_41 : decode cX12_hankTold 41 = .ok (.if_icmp .ne 12, 3) := by decide +kernel
theorem dX12_hankTold_44 : decode cX12_hankTold 44 = .ok (.aload_n 0, 1) := by decide +kernel
theorem dX12_hankTold_45 : decode cX12_hankTold 45 = .ok (.getfield 16, 3) := by decide +kernel
theorem dX12_hankTold_48 : decode cX12_hankTold 48 = .ok (.iload_n 1, 1) := by decide +kernel
theorem dX12_hankTold_49 : decode cX12_hankTold 49 = .ok (.iaload, 1) := by decide +kernel
theorem dX12_hankTold_50 : decode cX12_hankTold 50 = .ok (.goto 5, 3) := by decide +kernel
theorem dX12_hankTold_53 : decode cX12_hankTold 53 = .ok (.bipush (-5), 2) := by decide +kernel
theorem dX12_hankTold_55 : decode cX12_hankTold 55 = .ok (.ireturn, 1) := by decide +kernel
theorem dX12_feed_0 : decode cX12_feed 0 = .ok (.iload_n 1, 1) := by decide +kernel
theorem dX12_feed_1 : decode cX12_feed 1 = .ok (.iconst 1, 1) := by decide +kernel
theorem dX12_feed_2 : decode cX12_feed 2 = .ok (.bipush 8, 2) := by decide +kernel
theorem dX12_feed_4 : decode cX12_feed 4 = .ok (.invokestatic 109, 3) := by decide +kernel
theorem dX12_feed_7 : decode cX12_feed 7 = .ok (.ifCond .ne 6, 3) := by decide +kernel
theorem dX12_feed_10 : decode cX12_feed 10 = .ok (.bipush (-2), 2) := by decide +kernel
theorem dX12_feed_12 : decode cX12_feed 12 = .ok (.ireturn, 1) := by decide +kernel
theorem dX12_feed_13 : decode cX12_feed 13 = .ok (.aload_n 0, 1) := by decide +kernel
theorem dX12_feed_14 : decode cX12_feed 14 = .ok (.getfield 149, 3) := by decide +kernel
theorem dX12_feed_17 : decode cX12_feed 17 = .ok (.iload_n 1, 1) := by decide +kernel
theorem dX12_feed_18 : decode cX12_feed 18 = .ok (.iadd, 1) := by decide +kernel
theorem dX12_feed_19 : decode cX12_feed 19 = .ok (.sipush 160, 3) := by decide +kernel
theorem dX12_feed_22 : decode cX12_feed 22 = .ok (.if_icmp .le 6, 3) := by decide +kernel
theorem dX12_feed_25 : decode cX12_feed 25 = .ok (.bipush (-4), 2) := by decide +kernel
theorem dX12_feed_27 : decode cX12_feed 27 = .ok (.ireturn, 1) := by decide +kernel
theorem dX12_feed_28 : decode cX12_feed 28 = .ok (.iconst 0, 1) := by decide +kernel
theorem dX12_feed_29 : decode cX12_feed 29 = .ok (.istore 4, 2) := by decide +kernel
theorem dX12_feed_31 : decode cX12_feed 31 = .ok (.iload 4, 2) := by decide +kernel
theorem dX12_feed_33 : decode cX12_feed 33 = .ok (.iload_n 1, 1) := by decide +kernel
theorem dX12_feed_34 : decode cX12_feed 34 = .ok (.if_icmp .ge 37, 3) := by decide +kernel
theorem dX12_feed_37 : decode cX12_feed 37 = .ok (.aload_n 0, 1) := by decide +kernel
theorem dX12_feed_38 : decode cX12_feed 38 = .ok (.getfield 44, 3) := by decide +kernel
theorem dX12_feed_41 : decode cX12_feed 41 = .ok (.aload_n 0, 1) := by decide +kernel
theorem dX12_feed_42 : decode cX12_feed 42 = .ok (.getfield 149, 3) := by decide +kernel
theorem dX12_feed_45 : decode cX12_feed 45 = .ok (.lload_n 2, 1) := by decide +kernel
theorem dX12_feed_46 : decode cX12_feed 46 = .ok (.bipush 8, 2) := by decide +kernel
theorem dX12_feed_48 : decode cX12_feed 48 = .ok (.iload 4, 2) := by decide +kernel
theorem dX12_feed_50 : decode cX12_feed 50 = .ok (.imul, 1) := by decide +kernel
theorem dX12_feed_51 : decode cX12_feed 51 = .ok (.lshr, 1) := by decide +kernel
theorem dX12_feed_52 : decode cX12_feed 52 = .ok (.l2i, 1) := by decide +kernel
theorem dX12_feed_53 : decode cX12_feed 53 = .ok (.i2b, 1) := by decide +kernel
theorem dX12_feed_54 : decode cX12_feed 54 = .ok (.bastore, 1) := by decide +kernel
theorem dX12_feed_55 : decode cX12_feed 55 = .ok (.aload_n 0, 1) := by decide +kernel
theorem dX12_feed_56 : decode cX12_feed 56 = .ok (.dup, 1) := by decide +kernel
theorem dX12_feed_57 : decode cX12_feed 57 = .ok (.getfield 149, 3) := by decide +kernel
theorem dX12_feed_60 : decode cX12_feed 60 = .ok (.iconst 1, 1) := by decide +kernel
theorem dX12_feed_61 : decode cX12_feed 61 = .ok (.iadd, 1) := by decide +kernel
theorem dX12_feed_62 : decode cX12_feed 62 = .ok (.putfield 149, 3) := by decide +kernel
theorem dX12_feed_65 : decode cX12_feed 65 = .ok (.iinc 4 1, 3) := by decide +kernel
theorem dX12_feed_68 : decode cX12_feed 68 = .ok (.goto (-37), 3) := by decide +kernel
theorem dX12_feed_71 : decode cX12_feed 71 = .ok (.aload_n 0, 1) := by decide +kernel
theorem dX12_feed_72 : decode cX12_feed 72 = .ok (.getfield 149, 3) := by decide +kernel
theorem dX12_feed_75 : decode cX12_feed 75 = .ok (.ireturn, 1) := by decide +kernel
theorem dX12_isLetter_0 : decode cX12_isLetter 0 = .ok (.iload_n 0, 1) := by decide +kernel
theorem dX12_isLetter_1 : decode cX12_isLetter 1 = .ok (.bipush 97, 2) := by decide +kernel
theorem dX12_isLetter_3 : decode cX12_isLetter 3 = .ok (.bipush 122, 2) := by decide +kernel
theorem dX12_isLetter_5 : decode cX12_isLetter 5 = .ok (.invokestatic 109, 3) := by decide +kernel
theorem dX12_isLetter_8 : decode cX12_isLetter 8 = .ok (.ireturn, 1) := by decide +kernel
theorem dX12_isDigit_0 : decode cX12_isDigit 0 = .ok (.iload_n 0, 1) := by decide +kernel
theorem dX12_isDigit_1 : decode cX12_isDigit 1 = .ok (.bipush 48, 2) := by decide +kernel
theorem dX12_isDigit_3 : decode cX12_isDigit 3 = .ok (.bipush 57, 2) := by decide +kernel
theorem dX12_isDigit_5 : decode cX12_isDigit 5 = .ok (.invokestatic 109, 3) := by decide +kernel
theorem dX12_isDigit_8 : decode cX12_isDigit 8 = .ok (.ireturn, 1) := by decide +kernel
theorem dX12_isWord_0 : decode cX12_isWord 0 = .ok (.aload_n 0, 1) := by decide +kernel
theorem dX12_isWord_1 : decode cX12_isWord 1 = .ok (.getfield 152, 3) := by decide +kernel
theorem dX12_isWord_4 : decode cX12_isWord 4 = .ok (.aload_n 0, 1) := by decide +kernel
theorem dX12_isWord_5 : decode cX12_isWord 5 = .ok (.getfield 155, 3) := by decide +kernel
theorem dX12_isWord_8 : decode cX12_isWord 8 = .ok (.isub, 1) := by decide +kernel
theorem dX12_isWord_9 : decode cX12_isWord 9 = .ok (.iload 7, 2) := by decide +kernel
theorem dX12_isWord_11 : decode cX12_isWord 11 = .ok (.if_icmp .eq 5, 3) := by decide +kernel
theorem dX12_isWord_14 : decode cX12_isWord 14 = .ok (.iconst 0, 1) := by decide +kernel
theorem dX12_isWord_15 : decode cX12_isWord 15 = .ok (.ireturn, 1) := by decide +kernel
theorem dX12_isWord_16 : decode cX12_isWord 16 = .ok (.iload 7, 2) := by decide +kernel
theorem dX12_isWord_18 : decode cX12_isWord 18 = .ok (.iconst 1, 1) := by decide +kernel
theorem dX12_isWord_19 : decode cX12_isWord 19 = .ok (.if_icmp .lt 16, 3) := by decide +kernel
theorem dX12_isWord_22 : decode cX12_isWord 22 = .ok (.aload_n 0, 1) := by decide +kernel
theorem dX12_isWord_23 : decode cX12_isWord 23 = .ok (.getfield 44, 3) := by decide +kernel
theorem dX12_isWord_26 : decode cX12_isWord 26 = .ok (.aload_n 0, 1) := by decide +kernel
theorem dX12_isWord_27 : decode cX12_isWord 27 = .ok (.getfield 155, 3) := by decide +kernel
theorem dX12_isWord_30 : decode cX12_isWord 30 = .ok (.baload, 1) := by decide +kernel
theorem dX12_isWord_31 : decode cX12_isWord 31 = .ok (.iload_n 1, 1) := by decide +kernel
theorem dX12_isWord_32 : decode cX12_isWord 32 = .ok (.if_icmp .ne 116, 3) := by decide +kernel
theorem dX12_isWord_35 : decode cX12_isWord 35 = .ok (.iload 7, 2) := by decide +kernel
theorem dX12_isWord_37 : decode cX12_isWord 37 = .ok (.iconst 2, 1) := by decide +kernel
theorem dX12_isWord_38 : decode cX12_isWord 38 = .ok (.if_icmp .lt 18, 3) := by decide +kernel
theorem dX12_isWord_41 : decode cX12_isWord 41 = .ok (.aload_n 0, 1) := by decide +kernel
theorem dX12_isWord_42 : decode cX12_isWord 42 = .ok (.getfield 44, 3) := by decide +kernel
theorem dX12_isWord_45 : decode cX12_isWord 45 = .ok (.aload_n 0, 1) := by decide +kernel
theorem dX12_isWord_46 : decode cX12_isWord 46 = .ok (.getfield 155, 3) := by decide +kernel
theorem dX12_isWord_49 : decode cX12_isWord 49 = .ok (.iconst 1, 1) := by decide +kernel
theorem dX12_isWord_50 : decode cX12_isWord 50 = .ok (.iadd, 1) := by decide +kernel
theorem dX12_isWord_51 : decode cX12_isWord 51 = .ok (.baload, 1) := by decide +kernel
theorem dX12_isWord_52 : decode cX12_isWord 52 = .ok (.iload_n 2, 1) := by decide +kernel
theorem dX12_isWord_53 : decode cX12_isWord 53 = .ok (.if_icmp .ne 95, 3) := by decide +kernel
theorem dX12_isWord_56 : decode cX12_isWord 56 = .ok (.iload 7, 2) := by decide +kernel
theorem dX12_isWord_58 : decode cX12_isWord 58 = .ok (.iconst 3, 1) := by decide +kernel
theorem dX12_isWord_59 : decode cX12_isWord 59 = .ok (.if_icmp .lt 18, 3) := by decide +kernel
theorem dX12_isWord_62 : decode cX12_isWord 62 = .ok (.aload_n 0, 1) := by decide +kernel
theorem dX12_isWord_63 : decode cX12_isWord 63 = .ok (.getfield 44, 3) := by decide +kernel
theorem dX12_isWord_66 : decode cX12_isWord 66 = .ok (.aload_n 0, 1) := by decide +kernel
theorem dX12_isWord_67 : decode cX12_isWord 67 = .ok (.getfield 155, 3) := by decide +kernel
theorem dX12_isWord_70 : decode cX12_isWord 70 = .ok (.iconst 2, 1) := by decide +kernel
theorem dX12_isWord_71 : decode cX12_isWord 71 = .ok (.iadd, 1) := by decide +kernel
theorem dX12_isWord_72 : decode cX12_isWord 72 = .ok (.baload, 1) := by decide +kernel
theorem dX12_isWord_73 : decode cX12_isWord 73 = .ok (.iload_n 3, 1) := by decide +kernel
theorem dX12_isWord_74 : decode cX12_isWord 74 = .ok (.if_icmp .ne 74, 3) := by decide +kernel
theorem dX12_isWord_77 : decode cX12_isWord 77 = .ok (.iload 7, 2) := by decide +kernel
theorem dX12_isWord_79 : decode cX12_isWord 79 = .ok (.iconst 4, 1) := by decide +kernel
theorem dX12_isWord_80 : decode cX12_isWord 80 = .ok (.if_icmp .lt 19, 3) := by decide +kernel
theorem dX12_isWord_83 : decode cX12_isWord 83 = .ok (.aload_n 0, 1) := by decide +kernel
theorem dX12_isWord_84 : decode cX12_isWord 84 = .ok (.getfield 44, 3) := by decide +kernel
theorem dX12_isWord_87 : decode cX12_isWord 87 = .ok (.aload_n 0, 1) := by decide +kernel
theorem dX12_isWord_88 : decode cX12_isWord 88 = .ok (.getfield 155, 3) := by decide +kernel
theorem dX12_isWord_91 : decode cX12_isWord 91 = .ok (.iconst 3, 1) := by decide +kernel
theorem dX12_isWord_92 : decode cX12_isWord 92 = .ok (.iadd, 1) := by decide +kernel
theorem dX12_isWord_93 : decode cX12_isWord 93 = .ok (.baload, 1) := by decide +kernel
theorem dX12_isWord_94 : decode cX12_isWord 94 = .ok (.iload 4, 2) := by decide +kernel
theorem dX12_isWord_96 : decode cX12_isWord 96 = .ok (.if_icmp .ne 52, 3) := by decide +kernel
theorem dX12_isWord_99 : decode cX12_isWord 99 = .ok (.iload 7, 2) := by decide +kernel
theorem dX12_isWord_101 : decode cX12_isWord 101 = .ok (.iconst 5, 1) := by decide +kernel
theorem dX12_isWord_102 : decode cX12_isWord 102 = .ok (.if_icmp .lt 19, 3) := by decide +kernel
theorem dX12_isWord_105 : decode cX12_isWord 105 = .ok (.aload_n 0, 1) := by decide +kernel
theorem dX12_isWord_106 : decode cX12_isWord 106 = .ok (.getfield 44, 3) := by decide +kernel
theorem dX12_isWord_109 : decode cX12_isWord 109 = .ok (.aload_n 0, 1) := by decide +kernel
theorem dX12_isWord_110 : decode cX12_isWord 110 = .ok (.getfield 155, 3) := by decide +kernel
theorem dX12_isWord_113 : decode cX12_isWord 113 = .ok (.iconst 4, 1) := by decide +kernel
theorem dX12_isWord_114 : decode cX12_isWord 114 = .ok (.iadd, 1) := by decide +kernel
theorem dX12_isWord_115 : decode cX12_isWord 115 = .ok (.baload, 1) := by decide +kernel
theorem dX12_isWord_116 : decode cX12_isWord 116 = .ok (.iload 5, 2) := by decide +kernel
theorem dX12_isWord_118 : decode cX12_isWord 118 = .ok (.if_icmp .ne 30, 3) := by decide +kernel
theorem dX12_isWord_121 : decode cX12_isWord 121 = .ok (.iload 7, 2) := by decide +kernel
theorem dX12_isWord_123 : decode cX12_isWord 123 = .ok (.bipush 6, 2) := by decide +kernel
theorem dX12_isWord_125 : decode cX12_isWord 125 = .ok (.if_icmp .lt 19, 3) := by decide +kernel
theorem dX12_isWord_128 : decode cX12_isWord 128 = .ok (.aload_n 0, 1) := by decide +kernel
theorem dX12_isWord_129 : decode cX12_isWord 129 = .ok (.getfield 44, 3) := by decide +kernel
theorem dX12_isWord_132 : decode cX12_isWord 132 = .ok (.aload_n 0, 1) := by decide +kernel
theorem dX12_isWord_133 : decode cX12_isWord 133 = .ok (.getfield 155, 3) := by decide +kernel
theorem dX12_isWord_136 : decode cX12_isWord 136 = .ok (.iconst 5, 1) := by decide +kernel
theorem dX12_isWord_137 : decode cX12_isWord 137 = .ok (.iadd, 1) := by decide +kernel
theorem dX12_isWord_138 : decode cX12_isWord 138 = .ok (.baload, 1) := by decide +kernel
theorem dX12_isWord_139 : decode cX12_isWord 139 = .ok (.iload 6, 2) := by decide +kernel
theorem dX12_isWord_141 : decode cX12_isWord 141 = .ok (.if_icmp .ne 7, 3) := by decide +kernel
theorem dX12_isWord_144 : decode cX12_isWord 144 = .ok (.iconst 1, 1) := by decide +kernel
theorem dX12_isWord_145 : decode cX12_isWord 145 = .ok (.goto 4, 3) := by decide +kernel
theorem dX12_isWord_148 : decode cX12_isWord 148 = .ok (.iconst 0, 1) := by decide +kernel
theorem dX12_isWord_149 : decode cX12_isWord 149 = .ok (.ireturn, 1) := by decide +kernel
theorem dX12_wordNow_0 : decode cX12_wordNow 0 = .ok (.aload_n 0, 1) := by decide +kernel
theorem dX12_wordNow_1 : decode cX12_wordNow 1 = .ok (.bipush 111, 2) := by decide +kernel
theorem dX12_wordNow_3 : decode cX12_wordNow 3 = .ok (.bipush 117, 2) := by decide +kernel
theorem dX12_wordNow_5 : decode cX12_wordNow 5 = .ok (.bipush 110, 2) := by decide +kernel
theorem dX12_wordNow_7 : decode cX12_wordNow 7 = .ok (.bipush 99, 2) := by decide +kernel
theorem dX12_wordNow_9 : decode cX12_wordNow 9 = .ok (.bipush 101, 2) := by decide +kernel
theorem dX12_wordNow_11 : decode cX12_wordNow 11 = .ok (.bipush 115, 2) := by decide +kernel
theorem dX12_wordNow_13 : decode cX12_wordNow 13 = .ok (.bipush 6, 2) := by decide +kernel
theorem dX12_wordNow_15 : decode cX12_wordNow 15 = .ok (.invokevirtual 158, 3) := by decide +kernel
theorem dX12_wordNow_18 : decode cX12_wordNow 18 = .ok (.ifCond .eq 5, 3) := by decide +kernel
theorem dX12_wordNow_21 : decode cX12_wordNow 21 = .ok (.iconst 0, 1) := by decide +kernel
theorem dX12_wordNow_22 : decode cX12_wordNow 22 = .ok (.ireturn, 1) := by decide +kernel
theorem dX12_wordNow_23 : decode cX12_wordNow 23 = .ok (.aload_n 0, 1) := by decide +kernel
theorem dX12_wordNow_24 : decode cX12_wordNow 24 = .ok (.bipush 97, 2) := by decide +kernel
theorem dX12_wordNow_26 : decode cX12_wordNow 26 = .ok (.bipush 112, 2) := by decide +kernel
theorem dX12_wordNow_28 : decode cX12_wordNow 28 = .ok (.bipush 97, 2) := by decide +kernel
theorem dX12_wordNow_30 : decode cX12_wordNow 30 = .ok (.bipush 114, 2) := by decide +kernel
theorem dX12_wordNow_32 : decode cX12_wordNow 32 = .ok (.bipush 116, 2) := by decide +kernel
theorem dX12_wordNow_34 : decode cX12_wordNow 34 = .ok (.iconst 0, 1) := by decide +kernel
theorem dX12_wordNow_35 : decode cX12_wordNow 35 = .ok (.iconst 5, 1) := by decide +kernel
theorem dX12_wordNow_36 : decode cX12_wordNow 36 = .ok (.invokevirtual 158, 3) := by decide +kernel
theorem dX12_wordNow_39 : decode cX12_wordNow 39 = .ok (.ifCond .eq 5, 3) := by decide +kernel
theorem dX12_wordNow_42 : decode cX12_wordNow 42 = .ok (.iconst 1, 1) := by decide +kernel
theorem dX12_wordNow_43 : decode cX12_wordNow 43 = .ok (.ireturn, 1) := by decide +kernel
theorem dX12_wordNow_44 : decode cX12_wordNow 44 = .ok (.aload_n 0, 1) := by decide +kernel
theorem dX12_wordNow_45 : decode cX12_wordNow 45 = .ok (.bipush 115, 2) := by decide +kernel
theorem dX12_wordNow_47 : decode cX12_wordNow 47 = .ok (.bipush 105, 2) := by decide +kernel
theorem dX12_wordNow_49 : decode cX12_wordNow 49 = .ok (.bipush 122, 2) := by decide +kernel
theorem dX12_wordNow_51 : decode cX12_wordNow 51 = .ok (.bipush 101, 2) := by decide +kernel
theorem dX12_wordNow_53 : decode cX12_wordNow 53 = .ok (.iconst 0, 1) := by decide +kernel
theorem dX12_wordNow_54 : decode cX12_wordNow 54 = .ok (.iconst 0, 1) := by decide +kernel
theorem dX12_wordNow_55 : decode cX12_wordNow 55 = .ok (.iconst 4, 1) := by decide +kernel
theorem dX12_wordNow_56 : decode cX12_wordNow 56 = .ok (.invokevirtual 158, 3) := by decide +kernel
theorem dX12_wordNow_59 : decode cX12_wordNow 59 = .ok (.ifCond .eq 5, 3) := by decide +kernel
theorem dX12_wordNow_62 : decode cX12_wordNow 62 = .ok (.iconst 2, 1) := by decide +kernel
theorem dX12_wordNow_63 : decode cX12_wordNow 63 = .ok (.ireturn, 1) := by decide +kernel
theorem dX12_wordNow_64 : decode cX12_wordNow 64 = .ok (.aload_n 0, 1) := by decide +kernel
theorem dX12_wordNow_65 : decode cX12_wordNow 65 = .ok (.bipush 119, 2) := by decide +kernel
theorem dX12_wordNow_67 : decode cX12_wordNow 67 = .ok (.bipush 111, 2) := by decide +kernel
theorem dX12_wordNow_69 : decode cX12_wordNow 69 = .ok (.bipush 114, 2) := by decide +kernel
theorem dX12_wordNow_71 : decode cX12_wordNow 71 = .ok (.bipush 110, 2) := by decide +kernel
theorem dX12_wordNow_73 : decode cX12_wordNow 73 = .ok (.iconst 0, 1) := by decide +kernel
theorem dX12_wordNow_74 : decode cX12_wordNow 74 = .ok (.iconst 0, 1) := by decide +kernel
theorem dX12_wordNow_75 : decode cX12_wordNow 75 = .ok (.iconst 4, 1) := by decide +kernel
theorem dX12_wordNow_76 : decode cX12_wordNow 76 = .ok (.invokevirtual 158, 3) := by decide +kernel
theorem dX12_wordNow_79 : decode cX12_wordNow 79 = .ok (.ifCond .eq 5, 3) := by decide +kernel
theorem dX12_wordNow_82 : decode cX12_wordNow 82 = .ok (.iconst 3, 1) := by decide +kernel
theorem dX12_wordNow_83 : decode cX12_wordNow 83 = .ok (.ireturn, 1) := by decide +kernel
theorem dX12_wordNow_84 : decode cX12_wordNow 84 = .ok (.aload_n 0, 1) := by decide +kernel
theorem dX12_wordNow_85 : decode cX12_wordNow 85 = .ok (.bipush 102, 2) := by decide +kernel
theorem dX12_wordNow_87 : decode cX12_wordNow 87 = .ok (.bipush 97, 2) := by decide +kernel
theorem dX12_wordNow_89 : decode cX12_wordNow 89 = .ok (.bipush 100, 2) := by decide +kernel
theorem dX12_wordNow_91 : decode cX12_wordNow 91 = .ok (.bipush 101, 2) := by decide +kernel
theorem dX12_wordNow_93 : decode cX12_wordNow 93 = .ok (.bipush 100, 2) := by decide +kernel
theorem dX12_wordNow_95 : decode cX12_wordNow 95 = .ok (.iconst 0, 1) := by decide +kernel
theorem dX12_wordNow_96 : decode cX12_wordNow 96 = .ok (.iconst 5, 1) := by decide +kernel
theorem dX12_wordNow_97 : decode cX12_wordNow 97 = .ok (.invokevirtual 158, 3) := by decide +kernel
theorem dX12_wordNow_100 : decode cX12_wordNow 100 = .ok (.ifCond .eq 5, 3) := by decide +kernel
theorem dX12_wordNow_103 : decode cX12_wordNow 103 = .ok (.iconst 4, 1) := by decide +kernel
theorem dX12_wordNow_104 : decode cX12_wordNow 104 = .ok (.ireturn, 1) := by decide +kernel
theorem dX12_wordNow_105 : decode cX12_wordNow 105 = .ok (.aload_n 0, 1) := by decide +kernel
theorem dX12_wordNow_106 : decode cX12_wordNow 106 = .ok (.bipush 118, 2) := by decide +kernel
theorem dX12_wordNow_108 : decode cX12_wordNow 108 = .ok (.bipush 97, 2) := by decide +kernel
theorem dX12_wordNow_110 : decode cX12_wordNow 110 = .ok (.bipush 116, 2) := by decide +kernel
theorem dX12_wordNow_112 : decode cX12_wordNow 112 = .ok (.iconst 0, 1) := by decide +kernel
theorem dX12_wordNow_113 : decode cX12_wordNow 113 = .ok (.iconst 0, 1) := by decide +kernel
theorem dX12_wordNow_114 : decode cX12_wordNow 114 = .ok (.iconst 0, 1) := by decide +kernel
theorem dX12_wordNow_115 : decode cX12_wordNow 115 = .ok (.iconst 3, 1) := by decide +kernel
theorem dX12_wordNow_116 : decode cX12_wordNow 116 = .ok (.invokevirtual 158, 3) := by decide +kernel
theorem dX12_wordNow_119 : decode cX12_wordNow 119 = .ok (.ifCond .eq 5, 3) := by decide +kernel
theorem dX12_wordNow_122 : decode cX12_wordNow 122 = .ok (.iconst 5, 1) := by decide +kernel
theorem dX12_wordNow_123 : decode cX12_wordNow 123 = .ok (.ireturn, 1) := by decide +kernel
theorem dX12_wordNow_124 : decode cX12_wordNow 124 = .ok (.aload_n 0, 1) := by decide +kernel
theorem dX12_wordNow_125 : decode cX12_wordNow 125 = .ok (.bipush 98, 2) := by decide +kernel
theorem dX12_wordNow_127 : decode cX12_wordNow 127 = .ok (.bipush 101, 2) := by decide +kernel
theorem dX12_wordNow_129 : decode cX12_wordNow 129 = .ok (.bipush 97, 2) := by decide +kernel
theorem dX12_wordNow_131 : decode cX12_wordNow 131 = .ok (.bipush 114, 2) := by decide +kernel
theorem dX12_wordNow_133 : decode cX12_wordNow 133 = .ok (.iconst 0, 1) := by decide +kernel
theorem dX12_wordNow_134 : decode cX12_wordNow 134 = .ok (.iconst 0, 1) := by decide +kernel
theorem dX12_wordNow_135 : decode cX12_wordNow 135 = .ok (.iconst 4, 1) := by decide +kernel
theorem dX12_wordNow_136 : decode cX12_wordNow 136 = .ok (.invokevirtual 158, 3) := by decide +kernel
theorem dX12_wordNow_139 : decode cX12_wordNow 139 = .ok (.ifCond .eq 6, 3) := by decide +kernel
theorem dX12_wordNow_142 : decode cX12_wordNow 142 = .ok (.bipush 10, 2) := by decide +kernel
theorem dX12_wordNow_144 : decode cX12_wordNow 144 = .ok (.ireturn, 1) := by decide +kernel
theorem dX12_wordNow_145 : decode cX12_wordNow 145 = .ok (.aload_n 0, 1) := by decide +kernel
theorem dX12_wordNow_146 : decode cX12_wordNow 146 = .ok (.bipush 115, 2) := by decide +kernel
theorem dX12_wordNow_148 : decode cX12_wordNow 148 = .ok (.bipush 101, 2) := by decide +kernel
theorem dX12_wordNow_150 : decode cX12_wordNow 150 = .ok (.bipush 101, 2) := by decide +kernel
theorem dX12_wordNow_152 : decode cX12_wordNow 152 = .ok (.bipush 110, 2) := by decide +kernel
theorem dX12_wordNow_154 : decode cX12_wordNow 154 = .ok (.iconst 0, 1) := by decide +kernel
theorem dX12_wordNow_155 : decode cX12_wordNow 155 = .ok (.iconst 0, 1) := by decide +kernel
theorem dX12_wordNow_156 : decode cX12_wordNow 156 = .ok (.iconst 4, 1) := by decide +kernel
theorem dX12_wordNow_157 : decode cX12_wordNow 157 = .ok (.invokevirtual 158, 3) := by decide +kernel
theorem dX12_wordNow_160 : decode cX12_wordNow 160 = .ok (.ifCond .eq 6, 3) := by decide +kernel
theorem dX12_wordNow_163 : decode cX12_wordNow 163 = .ok (.bipush 11, 2) := by decide +kernel
theorem dX12_wordNow_165 : decode cX12_wordNow 165 = .ok (.ireturn, 1) := by decide +kernel
theorem dX12_wordNow_166 : decode cX12_wordNow 166 = .ok (.aload_n 0, 1) := by decide +kernel
theorem dX12_wordNow_167 : decode cX12_wordNow 167 = .ok (.bipush 107, 2) := by decide +kernel
theorem dX12_wordNow_169 : decode cX12_wordNow 169 = .ok (.bipush 101, 2) := by decide +kernel
theorem dX12_wordNow_171 : decode cX12_wordNow 171 = .ok (.bipush 101, 2) := by decide +kernel
theorem dX12_wordNow_173 : decode cX12_wordNow 173 = .ok (.bipush 112, 2) := by decide +kernel
theorem dX12_wordNow_175 : decode cX12_wordNow 175 = .ok (.iconst 0, 1) := by decide +kernel
theorem dX12_wordNow_176 : decode cX12_wordNow 176 = .ok (.iconst 0, 1) := by decide +kernel
theorem dX12_wordNow_177 : decode cX12_wordNow 177 = .ok (.iconst 4, 1) := by decide +kernel
theorem dX12_wordNow_178 : decode cX12_wordNow 178 = .ok (.invokevirtual 158, 3) := by decide +kernel
theorem dX12_wordNow_181 : decode cX12_wordNow 181 = .ok (.ifCond .eq 6, 3) := by decide +kernel
theorem dX12_wordNow_184 : decode cX12_wordNow 184 = .ok (.bipush 12, 2) := by decide +kernel
theorem dX12_wordNow_186 : decode cX12_wordNow 186 = .ok (.ireturn, 1) := by decide +kernel
theorem dX12_wordNow_187 : decode cX12_wordNow 187 = .ok (.aload_n 0, 1) := by decide +kernel
theorem dX12_wordNow_188 : decode cX12_wordNow 188 = .ok (.bipush 111, 2) := by decide +kernel
theorem dX12_wordNow_190 : decode cX12_wordNow 190 = .ok (.bipush 114, 2) := by decide +kernel
theorem dX12_wordNow_192 : decode cX12_wordNow 192 = .ok (.iconst 0, 1) := by decide +kernel
theorem dX12_wordNow_193 : decode cX12_wordNow 193 = .ok (.iconst 0, 1) := by decide +kernel
theorem dX12_wordNow_194 : decode cX12_wordNow 194 = .ok (.iconst 0, 1) := by decide +kernel
theorem dX12_wordNow_195 : decode cX12_wordNow 195 = .ok (.iconst 0, 1) := by decide +kernel
theorem dX12_wordNow_196 : decode cX12_wordNow 196 = .ok (.iconst 2, 1) := by decide +kernel
theorem dX12_wordNow_197 : decode cX12_wordNow 197 = .ok (.invokevirtual 158, 3) := by decide +kernel
theorem dX12_wordNow_200 : decode cX12_wordNow 200 = .ok (.ifCond .eq 6, 3) := by decide +kernel
theorem dX12_wordNow_203 : decode cX12_wordNow 203 = .ok (.bipush 13, 2) := by decide +kernel
theorem dX12_wordNow_205 : decode cX12_wordNow 205 = .ok (.ireturn, 1) := by decide +kernel
theorem dX12_wordNow_206 : decode cX12_wordNow 206 = .ok (.aload_n 0, 1) := by decide +kernel
theorem dX12_wordNow_207 : decode cX12_wordNow 207 = .ok (.bipush 97, 2) := by decide +kernel
theorem dX12_wordNow_209 : decode cX12_wordNow 209 = .ok (.bipush 110, 2) := by decide +kernel
theorem dX12_wordNow_211 : decode cX12_wordNow 211 = .ok (.bipush 100, 2) := by decide +kernel
theorem dX12_wordNow_213 : decode cX12_wordNow 213 = .ok (.iconst 0, 1) := by decide +kernel
theorem dX12_wordNow_214 : decode cX12_wordNow 214 = .ok (.iconst 0, 1) := by decide +kernel
theorem dX12_wordNow_215 : decode cX12_wordNow 215 = .ok (.iconst 0, 1) := by decide +kernel
theorem dX12_wordNow_216 : decode cX12_wordNow 216 = .ok (.iconst 3, 1) := by decide +kernel
theorem dX12_wordNow_217 : decode cX12_wordNow 217 = .ok (.invokevirtual 158, 3) := by decide +kernel
theorem dX12_wordNow_220 : decode cX12_wordNow 220 = .ok (.ifCond .eq 6, 3) := by decide +kernel
theorem dX12_wordNow_223 : decode cX12_wordNow 223 = .ok (.bipush 14, 2) := by decide +kernel
theorem dX12_wordNow_225 : decode cX12_wordNow 225 = .ok (.ireturn, 1) := by decide +kernel
theorem dX12_wordNow_226 : decode cX12_wordNow 226 = .ok (.aload_n 0, 1) := by decide +kernel
theorem dX12_wordNow_227 : decode cX12_wordNow 227 = .ok (.bipush 110, 2) := by decide +kernel
theorem dX12_wordNow_229 : decode cX12_wordNow 229 = .ok (.bipush 111, 2) := by decide +kernel
theorem dX12_wordNow_231 : decode cX12_wordNow 231 = .ok (.bipush 116, 2) := by decide +kernel
theorem dX12_wordNow_233 : decode cX12_wordNow 233 = .ok (.iconst 0, 1) := by decide +kernel
theorem dX12_wordNow_234 : decode cX12_wordNow 234 = .ok (.iconst 0, 1) := by decide +kernel
theorem dX12_wordNow_235 : decode cX12_wordNow 235 = .ok (.iconst 0, 1) := by decide +kernel
theorem dX12_wordNow_236 : decode cX12_wordNow 236 = .ok (.iconst 3, 1) := by decide +kernel
theorem dX12_wordNow_237 : decode cX12_wordNow 237 = .ok (.invokevirtual 158, 3) := by decide +kernel
theorem dX12_wordNow_240 : decode cX12_wordNow 240 = .ok (.ifCond .eq 8, 3) := by decide +kernel
theorem dX12_wordNow_243 : decode cX12_wordNow 243 = .ok (.bipush 15, 2) := by decide +kernel
theorem dX12_wordNow_245 : decode cX12_wordNow 245 = .ok (.goto 4, 3) := by decide +kernel
theorem dX12_wordNow_248 : decode cX12_wordNow 248 = .ok (.iconst (-1), 1) := by decide +kernel
theorem dX12_wordNow_249 : decode cX12_wordNow 249 = .ok (.ireturn, 1) := by decide +kernel
theorem dX12_next_0 : decode cX12_next 0 = .ok (.aload_n 0, 1) := by decide +kernel
theorem dX12_next_1 : decode cX12_next 1 = .ok (.aload_n 0, 1) := by decide +kernel
theorem dX12_next_2 : decode cX12_next 2 = .ok (.getfield 152, 3) := by decide +kernel
theorem dX12_next_5 : decode cX12_next 5 = .ok (.putfield 155, 3) := by decide +kernel
theorem dX12_next_8 : decode cX12_next 8 = .ok (.aload_n 0, 1) := by decide +kernel
theorem dX12_next_9 : decode cX12_next 9 = .ok (.getfield 155, 3) := by decide +kernel
theorem dX12_next_12 : decode cX12_next 12 = .ok (.aload_n 0, 1) := by decide +kernel
theorem dX12_next_13 : decode cX12_next 13 = .ok (.getfield 149, 3) := by decide +kernel
theorem dX12_next_16 : decode cX12_next 16 = .ok (.if_icmp .ge 44, 3) := by decide +kernel
theorem dX12_next_19 : decode cX12_next 19 = .ok (.aload_n 0, 1) := by decide +kernel
theorem dX12_next_20 : decode cX12_next 20 = .ok (.getfield 44, 3) := by decide +kernel
theorem dX12_next_23 : decode cX12_next 23 = .ok (.aload_n 0, 1) := by decide +kernel
theorem dX12_next_24 : decode cX12_next 24 = .ok (.getfield 155, 3) := by decide +kernel
theorem dX12_next_27 : decode cX12_next 27 = .ok (.baload, 1) := by decide +kernel
theorem dX12_next_28 : decode cX12_next 28 = .ok (.bipush 32, 2) := by decide +kernel
theorem dX12_next_30 : decode cX12_next 30 = .ok (.if_icmp .eq 17, 3) := by decide +kernel
theorem dX12_next_33 : decode cX12_next 33 = .ok (.aload_n 0, 1) := by decide +kernel
theorem dX12_next_34 : decode cX12_next 34 = .ok (.getfield 44, 3) := by decide +kernel
theorem dX12_next_37 : decode cX12_next 37 = .ok (.aload_n 0, 1) := by decide +kernel
theorem dX12_next_38 : decode cX12_next 38 = .ok (.getfield 155, 3) := by decide +kernel
theorem dX12_next_41 : decode cX12_next 41 = .ok (.baload, 1) := by decide +kernel
theorem dX12_next_42 : decode cX12_next 42 = .ok (.bipush 10, 2) := by decide +kernel
theorem dX12_next_44 : decode cX12_next 44 = .ok (.if_icmp .ne 16, 3) := by decide +kernel
theorem dX12_next_47 : decode cX12_next 47 = .ok (.aload_n 0, 1) := by decide +kernel
theorem dX12_next_48 : decode cX12_next 48 = .ok (.dup, 1) := by decide +kernel
theorem dX12_next_49 : decode cX12_next 49 = .ok (.getfield 155, 3) := by decide +kernel
theorem dX12_next_52 : decode cX12_next 52 = .ok (.iconst 1, 1) := by decide +kernel
theorem dX12_next_53 : decode cX12_next 53 = .ok (.iadd, 1) := by decide +kernel
theorem dX12_next_54 : decode cX12_next 54 = .ok (.putfield 155, 3) := by decide +kernel
theorem dX12_next_57 : decode cX12_next 57 = .ok (.goto (-49), 3) := by decide +kernel
theorem dX12_next_60 : decode cX12_next 60 = .ok (.aload_n 0, 1) := by decide +kernel
theorem dX12_next_61 : decode cX12_next 61 = .ok (.aload_n 0, 1) := by decide +kernel
theorem dX12_next_62 : decode cX12_next 62 = .ok (.getfield 155, 3) := by decide +kernel
theorem dX12_next_65 : decode cX12_next 65 = .ok (.putfield 152, 3) := by decide +kernel
theorem dX12_next_68 : decode cX12_next 68 = .ok (.aload_n 0, 1) := by decide +kernel
theorem dX12_next_69 : decode cX12_next 69 = .ok (.getfield 155, 3) := by decide +kernel
theorem dX12_next_72 : decode cX12_next 72 = .ok (.aload_n 0, 1) := by decide +kernel
theorem dX12_next_73 : decode cX12_next 73 = .ok (.getfield 149, 3) := by decide +kernel
theorem dX12_next_76 : decode cX12_next 76 = .ok (.if_icmp .lt 17, 3) := by decide +kernel
theorem dX12_next_79 : decode cX12_next 79 = .ok (.aload_n 0, 1) := by decide +kernel
theorem dX12_next_80 : decode cX12_next 80 = .ok (.aload_n 0, 1) := by decide +kernel
theorem dX12_next_81 : decode cX12_next 81 = .ok (.getfield 149, 3) := by decide +kernel
theorem dX12_next_84 : decode cX12_next 84 = .ok (.putfield 155, 3) := by decide +kernel
theorem dX12_next_87 : decode cX12_next 87 = .ok (.aload_n 0, 1) := by decide +kernel
theorem dX12_next_88 : decode cX12_next 88 = .ok (.iconst 4, 1) := by decide +kernel
theorem dX12_next_89 : decode cX12_next 89 = .ok (.putfield 162, 3) := by decide +kernel
theorem dX12_next_92 : decode cX12_next 92 = .ok (.return_, 1) := by decide +kernel
theorem dX12_next_93 : decode cX12_next 93 = .ok (.aload_n 0, 1) := by decide +kernel
theorem dX12_next_94 : decode cX12_next 94 = .ok (.getfield 44, 3) := by decide +kernel
theorem dX12_next_97 : decode cX12_next 97 = .ok (.aload_n 0, 1) := by decide +kernel
theorem dX12_next_98 : decode cX12_next 98 = .ok (.getfield 155, 3) := by decide +kernel
theorem dX12_next_101 : decode cX12_next 101 = .ok (.baload, 1) := by decide +kernel
theorem dX12_next_102 : decode cX12_next 102 = .ok (.istore_n 1, 1) := by decide +kernel
theorem dX12_next_103 : decode cX12_next 103 = .ok (.iload_n 1, 1) := by decide +kernel
theorem dX12_next_104 : decode cX12_next 104 = .ok (.invokestatic 165, 3) := by decide +kernel
theorem dX12_next_107 : decode cX12_next 107 = .ok (.ifCond .eq 69, 3) := by decide +kernel
theorem dX12_next_110 : decode cX12_next 110 = .ok (.aload_n 0, 1) := by decide +kernel
theorem dX12_next_111 : decode cX12_next 111 = .ok (.getfield 152, 3) := by decide +kernel
theorem dX12_next_114 : decode cX12_next 114 = .ok (.aload_n 0, 1) := by decide +kernel
theorem dX12_next_115 : decode cX12_next 115 = .ok (.getfield 149, 3) := by decide +kernel
theorem dX12_next_118 : decode cX12_next 118 = .ok (.if_icmp .ge 31, 3) := by decide +kernel
theorem dX12_next_121 : decode cX12_next 121 = .ok (.aload_n 0, 1) := by decide +kernel
theorem dX12_next_122 : decode cX12_next 122 = .ok (.getfield 44, 3) := by decide +kernel
theorem dX12_next_125 : decode cX12_next 125 = .ok (.aload_n 0, 1) := by decide +kernel
theorem dX12_next_126 : decode cX12_next 126 = .ok (.getfield 152, 3) := by decide +kernel
theorem dX12_next_129 : decode cX12_next 129 = .ok (.baload, 1) := by decide +kernel
theorem dX12_next_130 : decode cX12_next 130 = .ok (.invokestatic 165, 3) := by decide +kernel
theorem dX12_next_133 : decode cX12_next 133 = .ok (.ifCond .eq 16, 3) := by decide +kernel
theorem dX12_next_136 : decode cX12_next 136 = .ok (.aload_n 0, 1) := by decide +kernel
theorem dX12_next_137 : decode cX12_next 137 = .ok (.dup, 1) := by decide +kernel
theorem dX12_next_138 : decode cX12_next 138 = .ok (.getfield 152, 3) := by decide +kernel
theorem dX12_next_141 : decode cX12_next 141 = .ok (.iconst 1, 1) := by decide +kernel
theorem dX12_next_142 : decode cX12_next 142 = .ok (.iadd, 1) := by decide +kernel
theorem dX12_next_143 : decode cX12_next 143 = .ok (.putfield 152, 3) := by decide +kernel
theorem dX12_next_146 : decode cX12_next 146 = .ok (.goto (-36), 3) := by decide +kernel
theorem dX12_next_149 : decode cX12_next 149 = .ok (.aload_n 0, 1) := by decide +kernel
theorem dX12_next_150 : decode cX12_next 150 = .ok (.aload_n 0, 1) := by decide +kernel
theorem dX12_next_151 : decode cX12_next 151 = .ok (.invokevirtual 168, 3) := by decide +kernel
theorem dX12_next_154 : decode cX12_next 154 = .ok (.putfield 172, 3) := by decide +kernel
theorem dX12_next_157 : decode cX12_next 157 = .ok (.aload_n 0, 1) := by decide +kernel
theorem dX12_next_158 : decode cX12_next 158 = .ok (.aload_n 0, 1) := by decide +kernel
theorem dX12_next_159 : decode cX12_next 159 = .ok (.getfield 172, 3) := by decide +kernel
theorem dX12_next_162 : decode cX12_next 162 = .ok (.ifCond .ge 7, 3) := by decide +kernel
theorem dX12_next_165 : decode cX12_next 165 = .ok (.iconst 5, 1) := by decide +kernel
theorem dX12_next_166 : decode cX12_next 166 = .ok (.goto 4, 3) := by decide +kernel
theorem dX12_next_169 : decode cX12_next 169 = .ok (.iconst 1, 1) := by decide +kernel
theorem dX12_next_170 : decode cX12_next 170 = .ok (.putfield 162, 3) := by decide +kernel
theorem dX12_next_173 : decode cX12_next 173 = .ok (.goto 188, 3) := by decide +kernel
theorem dX12_next_176 : decode cX12_next 176 = .ok (.iload_n 1, 1) := by decide +kernel
theorem dX12_next_177 : decode cX12_next 177 = .ok (.invokestatic 175, 3) := by decide +kernel
theorem dX12_next_180 : decode cX12_next 180 = .ok (.ifCond .eq 109, 3) := by decide +kernel
theorem dX12_next_183 : decode cX12_next 183 = .ok (.aload_n 0, 1) := by decide +kernel
theorem dX12_next_184 : decode cX12_next 184 = .ok (.iconst 0, 1) := by decide +kernel
theorem dX12_next_185 : decode cX12_next 185 = .ok (.putfield 172, 3) := by decide +kernel
theorem dX12_next_188 : decode cX12_next 188 = .ok (.aload_n 0, 1) := by decide +kernel
theorem dX12_next_189 : decode cX12_next 189 = .ok (.getfield 152, 3) := by decide +kernel
theorem dX12_next_192 : decode cX12_next 192 = .ok (.aload_n 0, 1) := by decide +kernel
theorem dX12_next_193 : decode cX12_next 193 = .ok (.getfield 149, 3) := by decide +kernel
theorem dX12_next_196 : decode cX12_next 196 = .ok (.if_icmp .ge 68, 3) := by decide +kernel
theorem dX12_next_199 : decode cX12_next 199 = .ok (.aload_n 0, 1) := by decide +kernel
theorem dX12_next_200 : decode cX12_next 200 = .ok (.getfield 44, 3) := by decide +kernel
theorem dX12_next_203 : decode cX12_next 203 = .ok (.aload_n 0, 1) := by decide +kernel
theorem dX12_next_204 : decode cX12_next 204 = .ok (.getfield 152, 3) := by decide +kernel
theorem dX12_next_207 : decode cX12_next 207 = .ok (.baload, 1) := by decide +kernel
theorem dX12_next_208 : decode cX12_next 208 = .ok (.invokestatic 175, 3) := by decide +kernel
theorem dX12_next_211 : decode cX12_next 211 = .ok (.ifCond .eq 53, 3) := by decide +kernel
theorem dX12_next_214 : decode cX12_next 214 = .ok (.aload_n 0, 1) := by decide +kernel
theorem dX12_next_215 : decode cX12_next 215 = .ok (.getfield 152, 3) := by decide +kernel
theorem dX12_next_218 : decode cX12_next 218 = .ok (.aload_n 0, 1) := by decide +kernel
theorem dX12_next_219 : decode cX12_next 219 = .ok (.getfield 155, 3) := by decide +kernel
theorem dX12_next_222 : decode cX12_next 222 = .ok (.isub, 1) := by decide +kernel
theorem dX12_next_223 : decode cX12_next 223 = .ok (.iconst 4, 1) := by decide +kernel
theorem dX12_next_224 : decode cX12_next 224 = .ok (.if_icmp .ge 27, 3) := by decide +kernel
theorem dX12_next_227 : decode cX12_next 227 = .ok (.aload_n 0, 1) := by decide +kernel
theorem dX12_next_228 : decode cX12_next 228 = .ok (.bipush 10, 2) := by decide +kernel
theorem dX12_next_230 : decode cX12_next 230 = .ok (.aload_n 0, 1) := by decide +kernel
theorem dX12_next_231 : decode cX12_next 231 = .ok (.getfield 172, 3) := by decide +kernel
theorem dX12_next_234 : decode cX12_next 234 = .ok (.imul, 1) := by decide +kernel
theorem dX12_next_235 : decode cX12_next 235 = .ok (.aload_n 0, 1) := by decide +kernel
theorem dX12_next_236 : decode cX12_next 236 = .ok (.getfield 44, 3) := by decide +kernel
theorem dX12_next_239 : decode cX12_next 239 = .ok (.aload_n 0, 1) := by decide +kernel
theorem dX12_next_240 : decode cX12_next 240 = .ok (.getfield 152, 3) := by decide +kernel
theorem dX12_next_243 : decode cX12_next 243 = .ok (.baload, 1) := by decide +kernel
theorem dX12_next_244 : decode cX12_next 244 = .ok (.iadd, 1) := by decide +kernel
theorem dX12_next_245 : decode cX12_next 245 = .ok (.bipush 48, 2) := by decide +kernel
theorem dX12_next_247 : decode cX12_next 247 = .ok (.isub, 1) := by decide +kernel
theorem dX12_next_248 : decode cX12_next 248 = .ok (.putfield 172, 3) := by decide +kernel
theorem dX12_next_251 : decode cX12_next 251 = .ok (.aload_n 0, 1) := by decide +kernel
theorem dX12_next_252 : decode cX12_next 252 = .ok (.dup, 1) := by decide +kernel
theorem dX12_next_253 : decode cX12_next 253 = .ok (.getfield 152, 3) := by decide +kernel
theorem dX12_next_256 : decode cX12_next 256 = .ok (.iconst 1, 1) := by decide +kernel
theorem dX12_next_257 : decode cX12_next 257 = .ok (.iadd, 1) := by decide +kernel
theorem dX12_next_258 : decode cX12_next 258 = .ok (.putfield 152, 3) := by decide +kernel
theorem dX12_next_261 : decode cX12_next 261 = .ok (.goto (-73), 3) := by decide +kernel
theorem dX12_next_264 : decode cX12_next 264 = .ok (.aload_n 0, 1) := by decide +kernel
theorem dX12_next_265 : decode cX12_next 265 = .ok (.aload_n 0, 1) := by decide +kernel
theorem dX12_next_266 : decode cX12_next 266 = .ok (.getfield 152, 3) := by decide +kernel
theorem dX12_next_269 : decode cX12_next 269 = .ok (.aload_n 0, 1) := by decide +kernel
theorem dX12_next_270 : decode cX12_next 270 = .ok (.getfield 155, 3) := by decide +kernel
theorem dX12_next_273 : decode cX12_next 273 = .ok (.isub, 1) := by decide +kernel
theorem dX12_next_274 : decode cX12_next 274 = .ok (.iconst 4, 1) := by decide +kernel
theorem dX12_next_275 : decode cX12_next 275 = .ok (.if_icmp .le 7, 3) := by decide +kernel
theorem dX12_next_278 : decode cX12_next 278 = .ok (.iconst 5, 1) := by decide +kernel
theorem dX12_next_279 : decode cX12_next 279 = .ok (.goto 4, 3) := by decide +kernel
theorem dX12_next_282 : decode cX12_next 282 = .ok (.iconst 2, 1) := by decide +kernel
theorem dX12_next_283 : decode cX12_next 283 = .ok (.putfield 162, 3) := by decide +kernel
theorem dX12_next_286 : decode cX12_next 286 = .ok (.goto 75, 3) := by decide +kernel
theorem dX12_next_289 : decode cX12_next 289 = .ok (.aload_n 0, 1) := by decide +kernel
theorem dX12_next_290 : decode cX12_next 290 = .ok (.dup, 1) := by decide +kernel
theorem dX12_next_291 : decode cX12_next 291 = .ok (.getfield 152, 3) := by decide +kernel
theorem dX12_next_294 : decode cX12_next 294 = .ok (.iconst 1, 1) := by decide +kernel
theorem dX12_next_295 : decode cX12_next 295 = .ok (.iadd, 1) := by decide +kernel
theorem dX12_next_296 : decode cX12_next 296 = .ok (.putfield 152, 3) := by decide +kernel
theorem dX12_next_299 : decode cX12_next 299 = .ok (.aload_n 0, 1) := by decide +kernel
theorem dX12_next_300 : decode cX12_next 300 = .ok (.iload_n 1, 1) := by decide +kernel
theorem dX12_next_301 : decode cX12_next 301 = .ok (.putfield 172, 3) := by decide +kernel
theorem dX12_next_304 : decode cX12_next 304 = .ok (.aload_n 0, 1) := by decide +kernel
theorem dX12_next_305 : decode cX12_next 305 = .ok (.iload_n 1, 1) := by decide +kernel
theorem dX12_next_306 : decode cX12_next 306 = .ok (.bipush 40, 2) := by decide +kernel
theorem dX12_next_308 : decode cX12_next 308 = .ok (.if_icmp .eq 45, 3) := by decide +kernel
theorem dX12_next_311 : decode cX12_next 311 = .ok (.iload_n 1, 1) := by decide +kernel
theorem dX12_next_312 : decode cX12_next 312 = .ok (.bipush 41, 2) := by decide +kernel
theorem dX12_next_314 : decode cX12_next 314 = .ok (.if_icmp .eq 39, 3) := by decide +kernel
theorem dX12_next_317 : decode cX12_next 317 = .ok (.iload_n 1, 1) := by decide +kernel
theorem dX12_next_318 : decode cX12_next 318 = .ok (.bipush 59, 2) := by decide +kernel
theorem dX12_next_320 : decode cX12_next 320 = .ok (.if_icmp .eq 33, 3) := by decide +kernel
theorem dX12_next_323 : decode cX12_next 323 = .ok (.iload_n 1, 1) := by decide +kernel
theorem dX12_next_324 : decode cX12_next 324 = .ok (.bipush 43, 2) := by decide +kernel
theorem dX12_next_326 : decode cX12_next 326 = .ok (.if_icmp .eq 27, 3) := by decide +kernel
theorem dX12_next_329 : decode cX12_next 329 = .ok (.iload_n 1, 1) := by decide +kernel
theorem dX12_next_330 : decode cX12_next 330 = .ok (.bipush 45, 2) := by decide +kernel
theorem dX12_next_332 : decode cX12_next 332 = .ok (.if_icmp .eq 21, 3) := by decide +kernel
theorem dX12_next_335 : decode cX12_next 335 = .ok (.iload_n 1, 1) := by decide +kernel
theorem dX12_next_336 : decode cX12_next 336 = .ok (.bipush 42, 2) := by decide +kernel
theorem dX12_next_338 : decode cX12_next 338 = .ok (.if_icmp .eq 15, 3) := by decide +kernel
theorem dX12_next_341 : decode cX12_next 341 = .ok (.iload_n 1, 1) := by decide +kernel
theorem dX12_next_342 : decode cX12_next 342 = .ok (.bipush 60, 2) := by decide +kernel
theorem dX12_next_344 : decode cX12_next 344 = .ok (.if_icmp .eq 9, 3) := by decide +kernel
theorem dX12_next_347 : decode cX12_next 347 = .ok (.iload_n 1, 1) := by decide +kernel
theorem dX12_next_348 : decode cX12_next 348 = .ok (.bipush 61, 2) := by decide +kernel
theorem dX12_next_350 : decode cX12_next 350 = .ok (.if_icmp .ne 7, 3) := by decide +kernel
theorem dX12_next_353 : decode cX12_next 353 = .ok (.iconst 3, 1) := by decide +kernel
theorem dX12_next_354 : decode cX12_next 354 = .ok (.goto 4, 3) := by decide +kernel
theorem dX12_next_357 : decode cX12_next 357 = .ok (.iconst 5, 1) := by decide +kernel
theorem dX12_next_358 : decode cX12_next 358 = .ok (.putfield 162, 3) := by decide +kernel
theorem dX12_next_361 : decode cX12_next 361 = .ok (.return_, 1) := by decide +kernel
theorem dX12_wrong_0 : decode cX12_wrong 0 = .ok (.aload_n 0, 1) := by decide +kernel
theorem dX12_wrong_1 : decode cX12_wrong 1 = .ok (.getfield 178, 3) := by decide +kernel
theorem dX12_wrong_4 : decode cX12_wrong 4 = .ok (.ifCond .ge 11, 3) := by decide +kernel
theorem dX12_wrong_7 : decode cX12_wrong 7 = .ok (.aload_n 0, 1) := by decide +kernel
theorem dX12_wrong_8 : decode cX12_wrong 8 = .ok (.aload_n 0, 1) := by decide +kernel
theorem dX12_wrong_9 : decode cX12_wrong 9 = .ok (.getfield 155, 3) := by decide +kernel
theorem dX12_wrong_12 : decode cX12_wrong 12 = .ok (.putfield 178, 3) := by decide +kernel
theorem dX12_wrong_15 : decode cX12_wrong 15 = .ok (.return_, 1) := by decide +kernel
theorem dX12_isSign_0 : decode cX12_isSign 0 = .ok (.aload_n 0, 1) := by decide +kernel
theorem dX12_isSign_1 : decode cX12_isSign 1 = .ok (.getfield 178, 3) := by decide +kernel
theorem dX12_isSign_4 : decode cX12_isSign 4 = .ok (.ifCond .ge 23, 3) := by decide +kernel
theorem dX12_isSign_7 : decode cX12_isSign 7 = .ok (.aload_n 0, 1) := by decide +kernel
theorem dX12_isSign_8 : decode cX12_isSign 8 = .ok (.getfield 162, 3) := by decide +kernel
theorem dX12_isSign_11 : decode cX12_isSign 11 = .ok (.iconst 3, 1) := by decide +kernel
theorem dX12_isSign_12 : decode cX12_isSign 12 = .ok (.if_icmp .ne 15, 3) := by decide +kernel
theorem dX12_isSign_15 : decode cX12_isSign 15 = .ok (.aload_n 0, 1) := by decide +kernel
theorem dX12_isSign_16 : decode cX12_isSign 16 = .ok (.getfield 172, 3) := by decide +kernel
theorem dX12_isSign_19 : decode cX12_isSign 19 = .ok (.iload_n 1, 1) := by decide +kernel
theorem dX12_isSign_20 : decode cX12_isSign 20 = .ok (.if_icmp .ne 7, 3) := by decide +kernel
theorem dX12_isSign_23 : decode cX12_isSign 23 = .ok (.iconst 1, 1) := by decide +kernel
theorem dX12_isSign_24 : decode cX12_isSign 24 = .ok (.goto 4, 3) := by decide +kernel
theorem dX12_isSign_27 : decode cX12_isSign 27 = .ok (.iconst 0, 1) := by decide +kernel
theorem dX12_isSign_28 : decode cX12_isSign 28 = .ok (.ireturn, 1) := by decide +kernel
theorem dX12_isKey_0 : decode cX12_isKey 0 = .ok (.aload_n 0, 1) := by decide +kernel
theorem dX12_isKey_1 : decode cX12_isKey 1 = .ok (.getfield 178, 3) := by decide +kernel
theorem dX12_isKey_4 : decode cX12_isKey 4 = .ok (.ifCond .ge 23, 3) := by decide +kernel
theorem dX12_isKey_7 : decode cX12_isKey 7 = .ok (.aload_n 0, 1) := by decide +kernel
theorem dX12_isKey_8 : decode cX12_isKey 8 = .ok (.getfield 162, 3) := by decide +kernel
theorem dX12_isKey_11 : decode cX12_isKey 11 = .ok (.iconst 1, 1) := by decide +kernel
theorem dX12_isKey_12 : decode cX12_isKey 12 = .ok (.if_icmp .ne 15, 3) := by decide +kernel
theorem dX12_isKey_15 : decode cX12_isKey 15 = .ok (.aload_n 0, 1) := by decide +kernel
theorem dX12_isKey_16 : decode cX12_isKey 16 = .ok (.getfield 172, 3) := by decide +kernel
theorem dX12_isKey_19 : decode cX12_isKey 19 = .ok (.iload_n 1, 1) := by decide +kernel
theorem dX12_isKey_20 : decode cX12_isKey 20 = .ok (.if_icmp .ne 7, 3) := by decide +kernel
theorem dX12_isKey_23 : decode cX12_isKey 23 = .ok (.iconst 1, 1) := by decide +kernel
theorem dX12_isKey_24 : decode cX12_isKey 24 = .ok (.goto 4, 3) := by decide +kernel
theorem dX12_isKey_27 : decode cX12_isKey 27 = .ok (.iconst 0, 1) := by decide +kernel
theorem dX12_isKey_28 : decode cX12_isKey 28 = .ok (.ireturn, 1) := by decide +kernel
theorem dX12_addStep_0 : decode cX12_addStep 0 = .ok (.aload_n 0, 1) := by decide +kernel
theorem dX12_addStep_1 : decode cX12_addStep 1 = .ok (.getfield 52, 3) := by decide +kernel
theorem dX12_addStep_4 : decode cX12_addStep 4 = .ok (.sipush 1020, 3) := by decide +kernel
theorem dX12_addStep_7 : decode cX12_addStep 7 = .ok (.aload_n 0, 1) := by decide +kernel
theorem dX12_addStep_8 : decode cX12_addStep 8 = .ok (.getfield 181, 3) := by decide +kernel
theorem dX12_addStep_11 : decode cX12_addStep 11 = .ok (.iadd, 1) := by decide +kernel
theorem dX12_addStep_12 : decode cX12_addStep 12 = .ok (.iload_n 1, 1) := by decide +kernel
theorem dX12_addStep_13 : decode cX12_addStep 13 = .ok (.iastore, 1) := by decide +kernel
theorem dX12_addStep_14 : decode cX12_addStep 14 = .ok (.aload_n 0, 1) := by decide +kernel
theorem dX12_addStep_15 : decode cX12_addStep 15 = .ok (.getfield 55, 3) := by decide +kernel
theorem dX12_addStep_18 : decode cX12_addStep 18 = .ok (.sipush 1020, 3) := by decide +kernel
theorem dX12_addStep_21 : decode cX12_addStep 21 = .ok (.aload_n 0, 1) := by decide +kernel
theorem dX12_addStep_22 : decode cX12_addStep 22 = .ok (.getfield 181, 3) := by decide +kernel
theorem dX12_addStep_25 : decode cX12_addStep 25 = .ok (.iadd, 1) := by decide +kernel
theorem dX12_addStep_26 : decode cX12_addStep 26 = .ok (.iload_n 2, 1) := by decide +kernel
theorem dX12_addStep_27 : decode cX12_addStep 27 = .ok (.iastore, 1) := by decide +kernel
theorem dX12_addStep_28 : decode cX12_addStep 28 = .ok (.aload_n 0, 1) := by decide +kernel
theorem dX12_addStep_29 : decode cX12_addStep 29 = .ok (.dup, 1) := by decide +kernel
theorem dX12_addStep_30 : decode cX12_addStep 30 = .ok (.getfield 181, 3) := by decide +kernel
theorem dX12_addStep_33 : decode cX12_addStep 33 = .ok (.iconst 1, 1) := by decide +kernel
theorem dX12_addStep_34 : decode cX12_addStep 34 = .ok (.iadd, 1) := by decide +kernel
theorem dX12_addStep_35 : decode cX12_addStep 35 = .ok (.putfield 181, 3) := by decide +kernel
theorem dX12_addStep_38 : decode cX12_addStep 38 = .ok (.return_, 1) := by decide +kernel
theorem dX12_opens_0 : decode cX12_opens 0 = .ok (.aload_n 0, 1) := by decide +kernel
theorem dX12_opens_1 : decode cX12_opens 1 = .ok (.getfield 184, 3) := by decide +kernel
theorem dX12_opens_4 : decode cX12_opens 4 = .ok (.iconst 5, 1) := by decide +kernel
theorem dX12_opens_5 : decode cX12_opens 5 = .ok (.if_icmp .ne 9, 3) := by decide +kernel
theorem dX12_opens_8 : decode cX12_opens 8 = .ok (.aload_n 0, 1) := by decide +kernel
theorem dX12_opens_9 : decode cX12_opens 9 = .ok (.invokevirtual 187, 3) := by decide +kernel
theorem dX12_opens_12 : decode cX12_opens 12 = .ok (.iconst 0, 1) := by decide +kernel
theorem dX12_opens_13 : decode cX12_opens 13 = .ok (.ireturn, 1) := by decide +kernel
theorem dX12_opens_14 : decode cX12_opens 14 = .ok (.aload_n 0, 1) := by decide +kernel
theorem dX12_opens_15 : decode cX12_opens 15 = .ok (.dup, 1) := by decide +kernel
theorem dX12_opens_16 : decode cX12_opens 16 = .ok (.getfield 184, 3) := by decide +kernel
theorem dX12_opens_19 : decode cX12_opens 19 = .ok (.iconst 1, 1) := by decide +kernel
theorem dX12_opens_20 : decode cX12_opens 20 = .ok (.iadd, 1) := by decide +kernel
theorem dX12_opens_21 : decode cX12_opens 21 = .ok (.putfield 184, 3) := by decide +kernel
theorem dX12_opens_24 : decode cX12_opens 24 = .ok (.aload_n 0, 1) := by decide +kernel
theorem dX12_opens_25 : decode cX12_opens 25 = .ok (.invokevirtual 190, 3) := by decide +kernel
theorem dX12_opens_28 : decode cX12_opens 28 = .ok (.iconst 1, 1) := by decide +kernel
theorem dX12_opens_29 : decode cX12_opens 29 = .ok (.ireturn, 1) := by decide +kernel
theorem dX12_either_0 : decode cX12_either 0 = .ok (.aload_n 0, 1) := by decide +kernel
theorem dX12_either_1 : decode cX12_either 1 = .ok (.invokevirtual 193, 3) := by decide +kernel
theorem dX12_either_4 : decode cX12_either 4 = .ok (.aload_n 0, 1) := by decide +kernel
theorem dX12_either_5 : decode cX12_either 5 = .ok (.bipush 13, 2) := by decide +kernel
theorem dX12_either_7 : decode cX12_either 7 = .ok (.invokevirtual 196, 3) := by decide +kernel
theorem dX12_either_10 : decode cX12_either 10 = .ok (.ifCond .eq 20, 3) := by decide +kernel
theorem dX12_either_13 : decode cX12_either 13 = .ok (.aload_n 0, 1) := by decide +kernel
theorem dX12_either_14 : decode cX12_either 14 = .ok (.invokevirtual 190, 3) := by decide +kernel
theorem dX12_either_17 : decode cX12_either 17 = .ok (.aload_n 0, 1) := by decide +kernel
theorem dX12_either_18 : decode cX12_either 18 = .ok (.invokevirtual 193, 3) := by decide +kernel
theorem dX12_either_21 : decode cX12_either 21 = .ok (.aload_n 0, 1) := by decide +kernel
theorem dX12_either_22 : decode cX12_either 22 = .ok (.iconst 5, 1) := by decide +kernel
theorem dX12_either_23 : decode cX12_either 23 = .ok (.iconst 0, 1) := by decide +kernel
theorem dX12_either_24 : decode cX12_either 24 = .ok (.invokevirtual 199, 3) := by decide +kernel
theorem dX12_either_27 : decode cX12_either 27 = .ok (.goto (-23), 3) := by decide +kernel
theorem dX12_either_30 : decode cX12_either 30 = .ok (.return_, 1) := by decide +kernel
theorem dX12_all_0 : decode cX12_all 0 = .ok (.aload_n 0, 1) := by decide +kernel
theorem dX12_all_1 : decode cX12_all 1 = .ok (.invokevirtual 203, 3) := by decide +kernel
theorem dX12_all_4 : decode cX12_all 4 = .ok (.aload_n 0, 1) := by decide +kernel
theorem dX12_all_5 : decode cX12_all 5 = .ok (.bipush 14, 2) := by decide +kernel
theorem dX12_all_7 : decode cX12_all 7 = .ok (.invokevirtual 196, 3) := by decide +kernel
theorem dX12_all_10 : decode cX12_all 10 = .ok (.ifCond .eq 21, 3) := by decide +kernel
theorem dX12_all_13 : decode cX12_all 13 = .ok (.aload_n 0, 1) := by decide +kernel
theorem dX12_all_14 : decode cX12_all 14 = .ok (.invokevirtual 190, 3) := by decide +kernel
theorem dX12_all_17 : decode cX12_all 17 = .ok (.aload_n 0, 1) := by decide +kernel
theorem dX12_all_18 : decode cX12_all 18 = .ok (.invokevirtual 203, 3) := by decide +kernel
theorem dX12_all_21 : decode cX12_all 21 = .ok (.aload_n 0, 1) := by decide +kernel
theorem dX12_all_22 : decode cX12_all 22 = .ok (.bipush 6, 2) := by decide +kernel
theorem dX12_all_24 : decode cX12_all 24 = .ok (.iconst 0, 1) := by decide +kernel
theorem dX12_all_25 : decode cX12_all 25 = .ok (.invokevirtual 199, 3) := by decide +kernel
theorem dX12_all_28 : decode cX12_all 28 = .ok (.goto (-24), 3) := by decide +kernel
theorem dX12_all_31 : decode cX12_all 31 = .ok (.return_, 1) := by decide +kernel
theorem dX12_denied_0 : decode cX12_denied 0 = .ok (.aload_n 0, 1) := by decide +kernel
theorem dX12_denied_1 : decode cX12_denied 1 = .ok (.bipush 15, 2) := by decide +kernel
theorem dX12_denied_3 : decode cX12_denied 3 = .ok (.invokevirtual 196, 3) := by decide +kernel
theorem dX12_denied_6 : decode cX12_denied 6 = .ok (.ifCond .eq 32, 3) := by decide +kernel
theorem dX12_denied_9 : decode cX12_denied 9 = .ok (.aload_n 0, 1) := by decide +kernel
theorem dX12_denied_10 : decode cX12_denied 10 = .ok (.invokevirtual 206, 3) := by decide +kernel
theorem dX12_denied_13 : decode cX12_denied 13 = .ok (.ifCond .ne 4, 3) := by decide +kernel
theorem dX12_denied_16 : decode cX12_denied 16 = .ok (.return_, 1) := by decide +kernel
theorem dX12_denied_17 : decode cX12_denied 17 = .ok (.aload_n 0, 1) := by decide +kernel
theorem dX12_denied_18 : decode cX12_denied 18 = .ok (.invokevirtual 203, 3) := by decide +kernel
theorem dX12_denied_21 : decode cX12_denied 21 = .ok (.aload_n 0, 1) := by decide +kernel
theorem dX12_denied_22 : decode cX12_denied 22 = .ok (.dup, 1) := by decide +kernel
theorem dX12_denied_23 : decode cX12_denied 23 = .ok (.getfield 184, 3) := by decide +kernel
theorem dX12_denied_26 : decode cX12_denied 26 = .ok (.iconst 1, 1) := by decide +kernel
theorem dX12_denied_27 : decode cX12_denied 27 = .ok (.isub, 1) := by decide +kernel
theorem dX12_denied_28 : decode cX12_denied 28 = .ok (.putfield 184, 3) := by decide +kernel
theorem dX12_denied_31 : decode cX12_denied 31 = .ok (.aload_n 0, 1) := by decide +kernel
theorem dX12_denied_32 : decode cX12_denied 32 = .ok (.iconst 3, 1) := by decide +kernel
theorem dX12_denied_33 : decode cX12_denied 33 = .ok (.iconst 0, 1) := by decide +kernel
theorem dX12_denied_34 : decode cX12_denied 34 = .ok (.invokevirtual 199, 3) := by decide +kernel
theorem dX12_denied_37 : decode cX12_denied 37 = .ok (.return_, 1) := by decide +kernel
theorem dX12_denied_38 : decode cX12_denied 38 = .ok (.aload_n 0, 1) := by decide +kernel
theorem dX12_denied_39 : decode cX12_denied 39 = .ok (.invokevirtual 210, 3) := by decide +kernel
theorem dX12_denied_42 : decode cX12_denied 42 = .ok (.aload_n 0, 1) := by decide +kernel
theorem dX12_denied_43 : decode cX12_denied 43 = .ok (.bipush 60, 2) := by decide +kernel
theorem dX12_denied_45 : decode cX12_denied 45 = .ok (.invokevirtual 213, 3) := by decide +kernel
theorem dX12_denied_48 : decode cX12_denied 48 = .ok (.ifCond .ne 13, 3) := by decide +kernel
theorem dX12_denied_51 : decode cX12_denied 51 = .ok (.aload_n 0, 1) := by decide +kernel
theorem dX12_denied_52 : decode cX12_denied 52 = .ok (.bipush 61, 2) := by decide +kernel
theorem dX12_denied_54 : decode cX12_denied 54 = .ok (.invokevirtual 213, 3) := by decide +kernel
theorem dX12_denied_57 : decode cX12_denied 57 = .ok (.ifCond .ne 4, 3) := by decide +kernel
theorem dX12_denied_60 : decode cX12_denied 60 = .ok (.return_, 1) := by decide +kernel
theorem dX12_denied_61 : decode cX12_denied 61 = .ok (.aload_n 0, 1) := by decide +kernel
theorem dX12_denied_62 : decode cX12_denied 62 = .ok (.getfield 172, 3) := by decide +kernel
theorem dX12_denied_65 : decode cX12_denied 65 = .ok (.istore_n 1, 1) := by decide +kernel
theorem dX12_denied_66 : decode cX12_denied 66 = .ok (.aload_n 0, 1) := by decide +kernel
theorem dX12_denied_67 : decode cX12_denied 67 = .ok (.invokevirtual 190, 3) := by decide +kernel
theorem dX12_denied_70 : decode cX12_denied 70 = .ok (.aload_n 0, 1) := by decide +kernel
theorem dX12_denied_71 : decode cX12_denied 71 = .ok (.invokevirtual 210, 3) := by decide +kernel
theorem dX12_denied_74 : decode cX12_denied 74 = .ok (.aload_n 0, 1) := by decide +kernel
theorem dX12_denied_75 : decode cX12_denied 75 = .ok (.iload_n 1, 1) := by decide +kernel
theorem dX12_denied_76 : decode cX12_denied 76 = .ok (.iconst 0, 1) := by decide +kernel
theorem dX12_denied_77 : decode cX12_denied 77 = .ok (.invokevirtual 199, 3) := by decide +kernel
theorem dX12_denied_80 : decode cX12_denied 80 = .ok (.return_, 1) := by decide +kernel
theorem dX12_sum_0 : decode cX12_sum 0 = .ok (.aload_n 0, 1) := by decide +kernel
theorem dX12_sum_1 : decode cX12_sum 1 = .ok (.invokevirtual 216, 3) := by decide +kernel
theorem dX12_sum_4 : decode cX12_sum 4 = .ok (.aload_n 0, 1) := by decide +kernel
theorem dX12_sum_5 : decode cX12_sum 5 = .ok (.bipush 43, 2) := by decide +kernel
theorem dX12_sum_7 : decode cX12_sum 7 = .ok (.invokevirtual 213, 3) := by decide +kernel
theorem dX12_sum_10 : decode cX12_sum 10 = .ok (.ifCond .ne 12, 3) := by decide +kernel
theorem dX12_sum_13 : decode cX12_sum 13 = .ok (.aload_n 0, 1) := by decide +kernel
theorem dX12_sum_14 : decode cX12_sum 14 = .ok (.bipush 45, 2) := by decide +kernel
theorem dX12_sum_16 : decode cX12_sum 16 = .ok (.invokevirtual 213, 3) := by decide +kernel
theorem dX12_sum_19 : decode cX12_sum 19 = .ok (.ifCond .eq 25, 3) := by decide +kernel
theorem dX12_sum_22 : decode cX12_sum 22 = .ok (.aload_n 0, 1) := by decide +kernel
theorem dX12_sum_23 : decode cX12_sum 23 = .ok (.getfield 172, 3) := by decide +kernel
theorem dX12_sum_26 : decode cX12_sum 26 = .ok (.istore_n 1, 1) := by decide +kernel
theorem dX12_sum_27 : decode cX12_sum 27 = .ok (.aload_n 0, 1) := by decide +kernel
theorem dX12_sum_28 : decode cX12_sum 28 = .ok (.invokevirtual 190, 3) := by decide +kernel
theorem dX12_sum_31 : decode cX12_sum 31 = .ok (.aload_n 0, 1) := by decide +kernel
theorem dX12_sum_32 : decode cX12_sum 32 = .ok (.invokevirtual 216, 3) := by decide +kernel
theorem dX12_sum_35 : decode cX12_sum 35 = .ok (.aload_n 0, 1) := by decide +kernel
theorem dX12_sum_36 : decode cX12_sum 36 = .ok (.iload_n 1, 1) := by decide +kernel
theorem dX12_sum_37 : decode cX12_sum 37 = .ok (.iconst 0, 1) := by decide +kernel
theorem dX12_sum_38 : decode cX12_sum 38 = .ok (.invokevirtual 199, 3) := by decide +kernel
theorem dX12_sum_41 : decode cX12_sum 41 = .ok (.goto (-37), 3) := by decide +kernel
theorem dX12_sum_44 : decode cX12_sum 44 = .ok (.return_, 1) := by decide +kernel
theorem dX12_term_0 : decode cX12_term 0 = .ok (.aload_n 0, 1) := by decide +kernel
theorem dX12_term_1 : decode cX12_term 1 = .ok (.invokevirtual 219, 3) := by decide +kernel
theorem dX12_term_4 : decode cX12_term 4 = .ok (.aload_n 0, 1) := by decide +kernel
theorem dX12_term_5 : decode cX12_term 5 = .ok (.bipush 42, 2) := by decide +kernel
theorem dX12_term_7 : decode cX12_term 7 = .ok (.invokevirtual 213, 3) := by decide +kernel
theorem dX12_term_10 : decode cX12_term 10 = .ok (.ifCond .eq 21, 3) := by decide +kernel
theorem dX12_term_13 : decode cX12_term 13 = .ok (.aload_n 0, 1) := by decide +kernel
theorem dX12_term_14 : decode cX12_term 14 = .ok (.invokevirtual 190, 3) := by decide +kernel
theorem dX12_term_17 : decode cX12_term 17 = .ok (.aload_n 0, 1) := by decide +kernel
theorem dX12_term_18 : decode cX12_term 18 = .ok (.invokevirtual 219, 3) := by decide +kernel
theorem dX12_term_21 : decode cX12_term 21 = .ok (.aload_n 0, 1) := by decide +kernel
theorem dX12_term_22 : decode cX12_term 22 = .ok (.bipush 42, 2) := by decide +kernel
theorem dX12_term_24 : decode cX12_term 24 = .ok (.iconst 0, 1) := by decide +kernel
theorem dX12_term_25 : decode cX12_term 25 = .ok (.invokevirtual 199, 3) := by decide +kernel
theorem dX12_term_28 : decode cX12_term 28 = .ok (.goto (-24), 3) := by decide +kernel
theorem dX12_term_31 : decode cX12_term 31 = .ok (.return_, 1) := by decide +kernel
theorem dX12_one_0 : decode cX12_one 0 = .ok (.aload_n 0, 1) := by decide +kernel
theorem dX12_one_1 : decode cX12_one 1 = .ok (.getfield 178, 3) := by decide +kernel
theorem dX12_one_4 : decode cX12_one 4 = .ok (.ifCond .lt 4, 3) := by decide +kernel
theorem dX12_one_7 : decode cX12_one 7 = .ok (.return_, 1) := by decide +kernel
theorem dX12_one_8 : decode cX12_one 8 = .ok (.aload_n 0, 1) := by decide +kernel
theorem dX12_one_9 : decode cX12_one 9 = .ok (.getfield 162, 3) := by decide +kernel
theorem dX12_one_12 : decode cX12_one 12 = .ok (.iconst 2, 1) := by decide +kernel
theorem dX12_one_13 : decode cX12_one 13 = .ok (.if_icmp .ne 19, 3) := by decide +kernel
theorem dX12_one_16 : decode cX12_one 16 = .ok (.aload_n 0, 1) := by decide +kernel
theorem dX12_one_17 : decode cX12_one 17 = .ok (.iconst 1, 1) := by decide +kernel
theorem dX12_one_18 : decode cX12_one 18 = .ok (.aload_n 0, 1) := by decide +kernel
theorem dX12_one_19 : decode cX12_one 19 = .ok (.getfield 172, 3) := by decide +kernel
theorem dX12_one_22 : decode cX12_one 22 = .ok (.invokevirtual 199, 3) := by decide +kernel
theorem dX12_one_25 : decode cX12_one 25 = .ok (.aload_n 0, 1) := by decide +kernel
theorem dX12_one_26 : decode cX12_one 26 = .ok (.invokevirtual 190, 3) := by decide +kernel
theorem dX12_one_29 : decode cX12_one 29 = .ok (.goto 132, 3) := by decide +kernel
theorem dX12_one_32 : decode cX12_one 32 = .ok (.aload_n 0, 1) := by decide +kernel
theorem dX12_one_33 : decode cX12_one 33 = .ok (.getfield 162, 3) := by decide +kernel
theorem dX12_one_36 : decode cX12_one 36 = .ok (.iconst 1, 1) := by decide +kernel
theorem dX12_one_37 : decode cX12_one 37 = .ok (.if_icmp .ne 28, 3) := by decide +kernel
theorem dX12_one_40 : decode cX12_one 40 = .ok (.aload_n 0, 1) := by decide +kernel
theorem dX12_one_41 : decode cX12_one 41 = .ok (.getfield 172, 3) := by decide +kernel
theorem dX12_one_44 : decode cX12_one 44 = .ok (.bipush 6, 2) := by decide +kernel
theorem dX12_one_46 : decode cX12_one 46 = .ok (.if_icmp .ge 19, 3) := by decide +kernel
theorem dX12_one_49 : decode cX12_one 49 = .ok (.aload_n 0, 1) := by decide +kernel
theorem dX12_one_50 : decode cX12_one 50 = .ok (.iconst 2, 1) := by decide +kernel
theorem dX12_one_51 : decode cX12_one 51 = .ok (.aload_n 0, 1) := by decide +kernel
theorem dX12_one_52 : decode cX12_one 52 = .ok (.getfield 172, 3) := by decide +kernel
theorem dX12_one_55 : decode cX12_one 55 = .ok (.invokevirtual 199, 3) := by decide +kernel
theorem dX12_one_58 : decode cX12_one 58 = .ok (.aload_n 0, 1) := by decide +kernel
theorem dX12_one_59 : decode cX12_one 59 = .ok (.invokevirtual 190, 3) := by decide +kernel
theorem dX12_one_62 : decode cX12_one 62 = .ok (.goto 99, 3) := by decide +kernel
theorem dX12_one_65 : decode cX12_one 65 = .ok (.aload_n 0, 1) := by decide +kernel
theorem dX12_one_66 : decode cX12_one 66 = .ok (.bipush 45, 2) := by decide +kernel
theorem dX12_one_68 : decode cX12_one 68 = .ok (.invokevirtual 213, 3) := by decide +kernel
theorem dX12_one_71 : decode cX12_one 71 = .ok (.ifCond .eq 34, 3) := by decide +kernel
theorem dX12_one_74 : decode cX12_one 74 = .ok (.aload_n 0, 1) := by decide +kernel
theorem dX12_one_75 : decode cX12_one 75 = .ok (.invokevirtual 206, 3) := by decide +kernel
theorem dX12_one_78 : decode cX12_one 78 = .ok (.ifCond .ne 4, 3) := by decide +kernel
theorem dX12_one_81 : decode cX12_one 81 = .ok (.return_, 1) := by decide +kernel
theorem dX12_one_82 : decode cX12_one 82 = .ok (.aload_n 0, 1) := by decide +kernel
theorem dX12_one_83 : decode cX12_one 83 = .ok (.invokevirtual 219, 3) := by decide +kernel
theorem dX12_one_86 : decode cX12_one 86 = .ok (.aload_n 0, 1) := by decide +kernel
theorem dX12_one_87 : decode cX12_one 87 = .ok (.dup, 1) := by decide +kernel
theorem dX12_one_88 : decode cX12_one 88 = .ok (.getfield 184, 3) := by decide +kernel
theorem dX12_one_91 : decode cX12_one 91 = .ok (.iconst 1, 1) := by decide +kernel
theorem dX12_one_92 : decode cX12_one 92 = .ok (.isub, 1) := by decide +kernel
theorem dX12_one_93 : decode cX12_one 93 = .ok (.putfield 184, 3) := by decide +kernel
theorem dX12_one_96 : decode cX12_one 96 = .ok (.aload_n 0, 1) := by decide +kernel
theorem dX12_one_97 : decode cX12_one 97 = .ok (.iconst 4, 1) := by decide +kernel
theorem dX12_one_98 : decode cX12_one 98 = .ok (.iconst 0, 1) := by decide +kernel
theorem dX12_one_99 : decode cX12_one 99 = .ok (.invokevirtual 199, 3) := by decide +kernel
theorem dX12_one_102 : decode cX12_one 102 = .ok (.goto 59, 3) := by decide +kernel
theorem dX12_one_105 : decode cX12_one 105 = .ok (.aload_n 0, 1) := by decide +kernel
theorem dX12_one_106 : decode cX12_one 106 = .ok (.bipush 40, 2) := by decide +kernel
theorem dX12_one_108 : decode cX12_one 108 = .ok (.invokevirtual 213, 3) := by decide +kernel
theorem dX12_one_111 : decode cX12_one 111 = .ok (.ifCond .eq 46, 3) := by decide +kernel
theorem dX12_one_114 : decode cX12_one 114 = .ok (.aload_n 0, 1) := by decide +kernel
theorem dX12_one_115 : decode cX12_one 115 = .ok (.invokevirtual 206, 3) := by decide +kernel
theorem dX12_one_118 : decode cX12_one 118 = .ok (.ifCond .ne 4, 3) := by decide +kernel
theorem dX12_one_121 : decode cX12_one 121 = .ok (.return_, 1) := by decide +kernel
theorem dX12_one_122 : decode cX12_one 122 = .ok (.aload_n 0, 1) := by decide +kernel
theorem dX12_one_123 : decode cX12_one 123 = .ok (.invokevirtual 222, 3) := by decide +kernel
theorem dX12_one_126 : decode cX12_one 126 = .ok (.aload_n 0, 1) := by decide +kernel
theorem dX12_one_127 : decode cX12_one 127 = .ok (.bipush 41, 2) := by decide +kernel
theorem dX12_one_129 : decode cX12_one 129 = .ok (.invokevirtual 213, 3) := by decide +kernel
theorem dX12_one_132 : decode cX12_one 132 = .ok (.ifCond .ne 8, 3) := by decide +kernel
theorem dX12_one_135 : decode cX12_one 135 = .ok (.aload_n 0, 1) := by decide +kernel
theorem dX12_one_136 : decode cX12_one 136 = .ok (.invokevirtual 187, 3) := by decide +kernel
theorem dX12_one_139 : decode cX12_one 139 = .ok (.return_, 1) := by decide +kernel
theorem dX12_one_140 : decode cX12_one 140 = .ok (.aload_n 0, 1) := by decide +kernel
theorem dX12_one_141 : decode cX12_one 141 = .ok (.dup, 1) := by decide +kernel
theorem dX12_one_142 : decode cX12_one 142 = .ok (.getfield 184, 3) := by decide +kernel
theorem dX12_one_145 : decode cX12_one 145 = .ok (.iconst 1, 1) := by decide +kernel
theorem dX12_one_146 : decode cX12_one 146 = .ok (.isub, 1) := by decide +kernel
theorem dX12_one_147 : decode cX12_one 147 = .ok (.putfield 184, 3) := by decide +kernel
theorem dX12_one_150 : decode cX12_one 150 = .ok (.aload_n 0, 1) := by decide +kernel
theorem dX12_one_151 : decode cX12_one 151 = .ok (.invokevirtual 190, 3) := by decide +kernel
theorem dX12_one_154 : decode cX12_one 154 = .ok (.goto 7, 3) := by decide +kernel
theorem dX12_one_157 : decode cX12_one 157 = .ok (.aload_n 0, 1) := by decide +kernel
theorem dX12_one_158 : decode cX12_one 158 = .ok (.invokevirtual 187, 3) := by decide +kernel
theorem dX12_one_161 : decode cX12_one 161 = .ok (.return_, 1) := by decide +kernel
theorem dX12_rule_0 : decode cX12_rule 0 = .ok (.aload_n 0, 1) := by decide +kernel
theorem dX12_rule_1 : decode cX12_rule 1 = .ok (.bipush 10, 2) := by decide +kernel
theorem dX12_rule_3 : decode cX12_rule 3 = .ok (.iload_n 1, 1) := by decide +kernel
theorem dX12_rule_4 : decode cX12_rule 4 = .ok (.iadd, 1) := by decide +kernel
theorem dX12_rule_5 : decode cX12_rule 5 = .ok (.invokevirtual 196, 3) := by decide +kernel
theorem dX12_rule_8 : decode cX12_rule 8 = .ok (.ifCond .ne 8, 3) := by decide +kernel
theorem dX12_rule_11 : decode cX12_rule 11 = .ok (.aload_n 0, 1) := by decide +kernel
theorem dX12_rule_12 : decode cX12_rule 12 = .ok (.invokevirtual 187, 3) := by decide +kernel
theorem dX12_rule_15 : decode cX12_rule 15 = .ok (.return_, 1) := by decide +kernel
theorem dX12_rule_16 : decode cX12_rule 16 = .ok (.aload_n 0, 1) := by decide +kernel
theorem dX12_rule_17 : decode cX12_rule 17 = .ok (.invokevirtual 190, 3) := by decide +kernel
theorem dX12_rule_20 : decode cX12_rule 20 = .ok (.aload_n 0, 1) := by decide +kernel
theorem dX12_rule_21 : decode cX12_rule 21 = .ok (.invokevirtual 222, 3) := by decide +kernel
theorem dX12_rule_24 : decode cX12_rule 24 = .ok (.aload_n 0, 1) := by decide +kernel
theorem dX12_rule_25 : decode cX12_rule 25 = .ok (.bipush 59, 2) := by decide +kernel
theorem dX12_rule_27 : decode cX12_rule 27 = .ok (.invokevirtual 213, 3) := by decide +kernel
theorem dX12_rule_30 : decode cX12_rule 30 = .ok (.ifCond .ne 8, 3) := by decide +kernel
theorem dX12_rule_33 : decode cX12_rule 33 = .ok (.aload_n 0, 1) := by decide +kernel
theorem dX12_rule_34 : decode cX12_rule 34 = .ok (.invokevirtual 187, 3) := by decide +kernel
theorem dX12_rule_37 : decode cX12_rule 37 = .ok (.return_, 1) := by decide +kernel
theorem dX12_rule_38 : decode cX12_rule 38 = .ok (.aload_n 0, 1) := by decide +kernel
theorem dX12_rule_39 : decode cX12_rule 39 = .ok (.invokevirtual 190, 3) := by decide +kernel
theorem dX12_rule_42 : decode cX12_rule 42 = .ok (.aload_n 0, 1) := by decide +kernel
theorem dX12_rule_43 : decode cX12_rule 43 = .ok (.getfield 58, 3) := by decide +kernel
theorem dX12_rule_46 : decode cX12_rule 46 = .ok (.bipush 18, 2) := by decide +kernel
theorem dX12_rule_48 : decode cX12_rule 48 = .ok (.iload_n 1, 1) := by decide +kernel
theorem dX12_rule_49 : decode cX12_rule 49 = .ok (.iadd, 1) := by decide +kernel
theorem dX12_rule_50 : decode cX12_rule 50 = .ok (.aload_n 0, 1) := by decide +kernel
theorem dX12_rule_51 : decode cX12_rule 51 = .ok (.getfield 181, 3) := by decide +kernel
theorem dX12_rule_54 : decode cX12_rule 54 = .ok (.iastore, 1) := by decide +kernel
theorem dX12_rule_55 : decode cX12_rule 55 = .ok (.return_, 1) := by decide +kernel
theorem dX12_text_0 : decode cX12_text 0 = .ok (.aload_n 0, 1) := by decide +kernel
theorem dX12_text_1 : decode cX12_text 1 = .ok (.getfield 48, 3) := by decide +kernel
theorem dX12_text_4 : decode cX12_text 4 = .ok (.bipush 6, 2) := by decide +kernel
theorem dX12_text_6 : decode cX12_text 6 = .ok (.if_icmp .ne 6, 3) := by decide +kernel
theorem dX12_text_9 : decode cX12_text 9 = .ok (.bipush (-4), 2) := by decide +kernel
theorem dX12_text_11 : decode cX12_text 11 = .ok (.ireturn, 1) := by decide +kernel
theorem dX12_text_12 : decode cX12_text 12 = .ok (.aload_n 0, 1) := by decide +kernel
theorem dX12_text_13 : decode cX12_text 13 = .ok (.iconst 0, 1) := by decide +kernel
theorem dX12_text_14 : decode cX12_text 14 = .ok (.putfield 152, 3) := by decide +kernel
theorem dX12_text_17 : decode cX12_text 17 = .ok (.aload_n 0, 1) := by decide +kernel
theorem dX12_text_18 : decode cX12_text 18 = .ok (.iconst (-1), 1) := by decide +kernel
theorem dX12_text_19 : decode cX12_text 19 = .ok (.putfield 178, 3) := by decide +kernel
theorem dX12_text_22 : decode cX12_text 22 = .ok (.aload_n 0, 1) := by decide +kernel
theorem dX12_text_23 : decode cX12_text 23 = .ok (.iconst 0, 1) := by decide +kernel
theorem dX12_text_24 : decode cX12_text 24 = .ok (.putfield 184, 3) := by decide +kernel
theorem dX12_text_27 : decode cX12_text 27 = .ok (.aload_n 0, 1) := by decide +kernel
theorem dX12_text_28 : decode cX12_text 28 = .ok (.iconst 0, 1) := by decide +kernel
theorem dX12_text_29 : decode cX12_text 29 = .ok (.putfield 181, 3) := by decide +kernel
theorem dX12_text_32 : decode cX12_text 32 = .ok (.aload_n 0, 1) := by decide +kernel
theorem dX12_text_33 : decode cX12_text 33 = .ok (.invokevirtual 190, 3) := by decide +kernel
theorem dX12_text_36 : decode cX12_text 36 = .ok (.iconst 0, 1) := by decide +kernel
theorem dX12_text_37 : decode cX12_text 37 = .ok (.istore_n 1, 1) := by decide +kernel
theorem dX12_text_38 : decode cX12_text 38 = .ok (.iload_n 1, 1) := by decide +kernel
theorem dX12_text_39 : decode cX12_text 39 = .ok (.iconst 2, 1) := by decide +kernel
theorem dX12_text_40 : decode cX12_text 40 = .ok (.if_icmp .gt 21, 3) := by decide +kernel
theorem dX12_text_43 : decode cX12_text 43 = .ok (.aload_n 0, 1) := by decide +kernel
theorem dX12_text_44 : decode cX12_text 44 = .ok (.getfield 178, 3) := by decide +kernel
theorem dX12_text_47 : decode cX12_text 47 = .ok (.ifCond .ge 14, 3) := by decide +kernel
theorem dX12_text_50 : decode cX12_text 50 = .ok (.aload_n 0, 1) := by decide +kernel
theorem dX12_text_51 : decode cX12_text 51 = .ok (.iload_n 1, 1) := by decide +kernel
theorem dX12_text_52 : decode cX12_text 52 = .ok (.invokevirtual 225, 3) := by decide +kernel
theorem dX12_text_55 : decode cX12_text 55 = .ok (.iinc 1 1, 3) := by decide +kernel
theorem dX12_text_58 : decode cX12_text 58 = .ok (.goto (-20), 3) := by decide +kernel
theorem dX12_text_61 : decode cX12_text 61 = .ok (.aload_n 0, 1) := by decide +kernel
theorem dX12_text_62 : decode cX12_text 62 = .ok (.getfield 178, 3) := by decide +kernel
theorem dX12_text_65 : decode cX12_text 65 = .ok (.ifCond .ge 15, 3) := by decide +kernel
theorem dX12_text_68 : decode cX12_text 68 = .ok (.aload_n 0, 1) := by decide +kernel
theorem dX12_text_69 : decode cX12_text 69 = .ok (.getfield 162, 3) := by decide +kernel
theorem dX12_text_72 : decode cX12_text 72 = .ok (.iconst 4, 1) := by decide +kernel
theorem dX12_text_73 : decode cX12_text 73 = .ok (.if_icmp .eq 7, 3) := by decide +kernel
theorem dX12_text_76 : decode cX12_text 76 = .ok (.aload_n 0, 1) := by decide +kernel
theorem dX12_text_77 : decode cX12_text 77 = .ok (.invokevirtual 187, 3) := by decide +kernel
theorem dX12_text_80 : decode cX12_text 80 = .ok (.aload_n 0, 1) := by decide +kernel
theorem dX12_text_81 : decode cX12_text 81 = .ok (.iconst 0, 1) := by decide +kernel
theorem dX12_text_82 : decode cX12_text 82 = .ok (.putfield 149, 3) := by decide +kernel
theorem dX12_text_85 : decode cX12_text 85 = .ok (.aload_n 0, 1) := by decide +kernel
theorem dX12_text_86 : decode cX12_text 86 = .ok (.getfield 178, 3) := by decide +kernel
theorem dX12_text_89 : decode cX12_text 89 = .ok (.ifCond .lt 11, 3) := by decide +kernel
theorem dX12_text_92 : decode cX12_text 92 = .ok (.bipush (-100), 2) := by decide +kernel
theorem dX12_text_94 : decode cX12_text 94 = .ok (.aload_n 0, 1) := by decide +kernel
theorem dX12_text_95 : decode cX12_text 95 = .ok (.getfield 178, 3) := by decide +kernel
theorem dX12_text_98 : decode cX12_text 98 = .ok (.isub, 1) := by decide +kernel
theorem dX12_text_99 : decode cX12_text 99 = .ok (.ireturn, 1) := by decide +kernel
theorem dX12_text_100 : decode cX12_text 100 = .ok (.iconst 0, 1) := by decide +kernel
theorem dX12_text_101 : decode cX12_text 101 = .ok (.istore_n 1, 1) := by decide +kernel
theorem dX12_text_102 : decode cX12_text 102 = .ok (.iload_n 1, 1) := by decide +kernel
theorem dX12_text_103 : decode cX12_text 103 = .ok (.aload_n 0, 1) := by decide +kernel
theorem dX12_text_104 : decode cX12_text 104 = .ok (.getfield 181, 3) := by decide +kernel
theorem dX12_text_107 : decode cX12_text 107 = .ok (.if_icmp .ge 59, 3) := by decide +kernel
theorem dX12_text_110 : decode cX12_text 110 = .ok (.aload_n 0, 1) := by decide +kernel
theorem dX12_text_111 : decode cX12_text 111 = .ok (.getfield 52, 3) := by decide +kernel
theorem dX12_text_114 : decode cX12_text 114 = .ok (.sipush 170, 3) := by decide +kernel
theorem dX12_text_117 : decode cX12_text 117 = .ok (.aload_n 0, 1) := by decide +kernel
theorem dX12_text_118 : decode cX12_text 118 = .ok (.getfield 48, 3) := by decide +kernel
theorem dX12_text_121 : decode cX12_text 121 = .ok (.imul, 1) := by decide +kernel
theorem dX12_text_122 : decode cX12_text 122 = .ok (.iload_n 1, 1) := by decide +kernel
theorem dX12_text_123 : decode cX12_text 123 = .ok (.iadd, 1) := by decide +kernel
theorem dX12_text_124 : decode cX12_text 124 = .ok (.aload_n 0, 1) := by decide +kernel
theorem dX12_text_125 : decode cX12_text 125 = .ok (.getfield 52, 3) := by decide +kernel
theorem dX12_text_128 : decode cX12_text 128 = .ok (.sipush 1020, 3) := by decide +kernel
theorem dX12_text_131 : decode cX12_text 131 = .ok (.iload_n 1, 1) := by decide +kernel
theorem dX12_text_132 : decode cX12_text 132 = .ok (.iadd, 1) := by decide +kernel
theorem dX12_text_133 : decode cX12_text 133 = .ok (.iaload, 1) := by decide +kernel
theorem dX12_text_134 : decode cX12_text 134 = .ok (.iastore, 1) := by decide +kernel
theorem dX12_text_135 : decode cX12_text 135 = .ok (.aload_n 0, 1) := by decide +kernel
theorem dX12_text_136 : decode cX12_text 136 = .ok (.getfield 55, 3) := by decide +kernel
theorem dX12_text_139 : decode cX12_text 139 = .ok (.sipush 170, 3) := by decide +kernel
theorem dX12_text_142 : decode cX12_text 142 = .ok (.aload_n 0, 1) := by decide +kernel
theorem dX12_text_143 : decode cX12_text 143 = .ok (.getfield 48, 3) := by decide +kernel
theorem dX12_text_146 : decode cX12_text 146 = .ok (.imul, 1) := by decide +kernel
theorem dX12_text_147 : decode cX12_text 147 = .ok (.iload_n 1, 1) := by decide +kernel
theorem dX12_text_148 : decode cX12_text 148 = .ok (.iadd, 1) := by decide +kernel
theorem dX12_text_149 : decode cX12_text 149 = .ok (.aload_n 0, 1) := by decide +kernel
theorem dX12_text_150 : decode cX12_text 150 = .ok (.getfield 55, 3) := by decide +kernel
theorem dX12_text_153 : decode cX12_text 153 = .ok (.sipush 1020, 3) := by decide +kernel
theorem dX12_text_156 : decode cX12_text 156 = .ok (.iload_n 1, 1) := by decide +kernel
theorem dX12_text_157 : decode cX12_text 157 = .ok (.iadd, 1) := by decide +kernel
theorem dX12_text_158 : decode cX12_text 158 = .ok (.iaload, 1) := by decide +kernel
theorem dX12_text_159 : decode cX12_text 159 = .ok (.iastore, 1) := by decide +kernel
theorem dX12_text_160 : decode cX12_text 160 = .ok (.iinc 1 1, 3) := by decide +kernel
theorem dX12_text_163 : decode cX12_text 163 = .ok (.goto (-61), 3) := by decide +kernel
theorem dX12_text_166 : decode cX12_text 166 = .ok (.iconst 0, 1) := by decide +kernel
theorem dX12_text_167 : decode cX12_text 167 = .ok (.istore_n 1, 1) := by decide +kernel
theorem dX12_text_168 : decode cX12_text 168 = .ok (.iload_n 1, 1) := by decide +kernel
theorem dX12_text_169 : decode cX12_text 169 = .ok (.iconst 3, 1) := by decide +kernel
theorem dX12_text_170 : decode cX12_text 170 = .ok (.if_icmp .ge 31, 3) := by decide +kernel
theorem dX12_text_173 : decode cX12_text 173 = .ok (.aload_n 0, 1) := by decide +kernel
theorem dX12_text_174 : decode cX12_text 174 = .ok (.getfield 58, 3) := by decide +kernel
theorem dX12_text_177 : decode cX12_text 177 = .ok (.iconst 3, 1) := by decide +kernel
theorem dX12_text_178 : decode cX12_text 178 = .ok (.aload_n 0, 1) := by decide +kernel
theorem dX12_text_179 : decode cX12_text 179 = .ok (.getfield 48, 3) := by decide +kernel
theorem dX12_text_182 : decode cX12_text 182 = .ok (.imul, 1) := by decide +kernel
theorem dX12_text_183 : decode cX12_text 183 = .ok (.iload_n 1, 1) := by decide +kernel
theorem dX12_text_184 : decode cX12_text 184 = .ok (.iadd, 1) := by decide +kernel
theorem dX12_text_185 : decode cX12_text 185 = .ok (.aload_n 0, 1) := by decide +kernel
theorem dX12_text_186 : decode cX12_text 186 = .ok (.getfield 58, 3) := by decide +kernel
theorem dX12_text_189 : decode cX12_text 189 = .ok (.bipush 18, 2) := by decide +kernel
theorem dX12_text_191 : decode cX12_text 191 = .ok (.iload_n 1, 1) := by decide +kernel
theorem dX12_text_192 : decode cX12_text 192 = .ok (.iadd, 1) := by decide +kernel
theorem dX12_text_193 : decode cX12_text 193 = .ok (.iaload, 1) := by decide +kernel
theorem dX12_text_194 : decode cX12_text 194 = .ok (.iastore, 1) := by decide +kernel
theorem dX12_text_195 : decode cX12_text 195 = .ok (.iinc 1 1, 3) := by decide +kernel
theorem dX12_text_198 : decode cX12_text 198 = .ok (.goto (-30), 3) := by decide +kernel
theorem dX12_text_201 : decode cX12_text 201 = .ok (.aload_n 0, 1) := by decide +kernel
theorem dX12_text_202 : decode cX12_text 202 = .ok (.dup, 1) := by decide +kernel
theorem dX12_text_203 : decode cX12_text 203 = .ok (.getfield 48, 3) := by decide +kernel
theorem dX12_text_206 : decode cX12_text 206 = .ok (.iconst 1, 1) := by decide +kernel
theorem dX12_text_207 : decode cX12_text 207 = .ok (.iadd, 1) := by decide +kernel
theorem dX12_text_208 : decode cX12_text 208 = .ok (.putfield 48, 3) := by decide +kernel
theorem dX12_text_211 : decode cX12_text 211 = .ok (.aload_n 0, 1) := by decide +kernel
theorem dX12_text_212 : decode cX12_text 212 = .ok (.getfield 48, 3) := by decide +kernel
theorem dX12_text_215 : decode cX12_text 215 = .ok (.iconst 1, 1) := by decide +kernel
theorem dX12_text_216 : decode cX12_text 216 = .ok (.isub, 1) := by decide +kernel
theorem dX12_text_217 : decode cX12_text 217 = .ok (.ireturn, 1) := by decide +kernel
theorem dX12_force_0 : decode cX12_force 0 = .ok (.iload_n 1, 1) := by decide +kernel
theorem dX12_force_1 : decode cX12_force 1 = .ok (.iconst 0, 1) := by decide +kernel
theorem dX12_force_2 : decode cX12_force 2 = .ok (.aload_n 0, 1) := by decide +kernel
theorem dX12_force_3 : decode cX12_force 3 = .ok (.getfield 48, 3) := by decide +kernel
theorem dX12_force_6 : decode cX12_force 6 = .ok (.iconst 1, 1) := by decide +kernel
theorem dX12_force_7 : decode cX12_force 7 = .ok (.isub, 1) := by decide +kernel
theorem dX12_force_8 : decode cX12_force 8 = .ok (.invokestatic 109, 3) := by decide +kernel
theorem dX12_force_11 : decode cX12_force 11 = .ok (.ifCond .ne 6, 3) := by decide +kernel
theorem dX12_force_14 : decode cX12_force 14 = .ok (.bipush (-2), 2) := by decide +kernel
theorem dX12_force_16 : decode cX12_force 16 = .ok (.ireturn, 1) := by decide +kernel
theorem dX12_force_17 : decode cX12_force 17 = .ok (.aload_n 0, 1) := by decide +kernel
theorem dX12_force_18 : decode cX12_force 18 = .ok (.getfield 229, 3) := by decide +kernel
theorem dX12_force_21 : decode cX12_force 21 = .ok (.istore_n 2, 1) := by decide +kernel
theorem dX12_force_22 : decode cX12_force 22 = .ok (.aload_n 0, 1) := by decide +kernel
theorem dX12_force_23 : decode cX12_force 23 = .ok (.iload_n 1, 1) := by decide +kernel
theorem dX12_force_24 : decode cX12_force 24 = .ok (.putfield 229, 3) := by decide +kernel
theorem dX12_force_27 : decode cX12_force 27 = .ok (.iload_n 2, 1) := by decide +kernel
theorem dX12_force_28 : decode cX12_force 28 = .ok (.ireturn, 1) := by decide +kernel
theorem dX12_twoOf_0 : decode cX12_twoOf 0 = .ok (.iload_n 0, 1) := by decide +kernel
theorem dX12_twoOf_1 : decode cX12_twoOf 1 = .ok (.lookupswitch 117 #[(5, 59), (6, 73), (43, 109), (45, 113), (60, 87), (61, 98)], 59) := by decide +kernel
theorem dX12_twoOf_60 : decode cX12_twoOf 60 = .ok (.iload_n 1, 1) := by decide +kernel
theorem dX12_twoOf_61 : decode cX12_twoOf 61 = .ok (.ifCond .ne 7, 3) := by decide +kernel
theorem dX12_twoOf_64 : decode cX12_twoOf 64 = .ok (.iload_n 2, 1) := by decide +kernel
theorem dX12_twoOf_65 : decode cX12_twoOf 65 = .ok (.ifCond .eq 7, 3) := by decide +kernel
theorem dX12_twoOf_68 : decode cX12_twoOf 68 = .ok (.iconst 1, 1) := by decide +kernel
theorem dX12_twoOf_69 : decode cX12_twoOf 69 = .ok (.goto 4, 3) := by decide +kernel
theorem dX12_twoOf_72 : decode cX12_twoOf 72 = .ok (.iconst 0, 1) := by decide +kernel
theorem dX12_twoOf_73 : decode cX12_twoOf 73 = .ok (.ireturn, 1) := by decide +kernel
theorem dX12_twoOf_74 : decode cX12_twoOf 74 = .ok (.iload_n 1, 1) := by decide +kernel
theorem dX12_twoOf_75 : decode cX12_twoOf 75 = .ok (.ifCond .eq 11, 3) := by decide +kernel
theorem dX12_twoOf_78 : decode cX12_twoOf 78 = .ok (.iload_n 2, 1) := by decide +kernel
theorem dX12_twoOf_79 : decode cX12_twoOf 79 = .ok (.ifCond .eq 7, 3) := by decide +kernel
theorem dX12_twoOf_82 : decode cX12_twoOf 82 = .ok (.iconst 1, 1) := by decide +kernel
theorem dX12_twoOf_83 : decode cX12_twoOf 83 = .ok (.goto 4, 3) := by decide +kernel
theorem dX12_twoOf_86 : decode cX12_twoOf 86 = .ok (.iconst 0, 1) := by decide +kernel
theorem dX12_twoOf_87 : decode cX12_twoOf 87 = .ok (.ireturn, 1) := by decide +kernel
theorem dX12_twoOf_88 : decode cX12_twoOf 88 = .ok (.iload_n 1, 1) := by decide +kernel
theorem dX12_twoOf_89 : decode cX12_twoOf 89 = .ok (.iload_n 2, 1) := by decide +kernel
theorem dX12_twoOf_90 : decode cX12_twoOf 90 = .ok (.if_icmp .ge 7, 3) := by decide +kernel
theorem dX12_twoOf_93 : decode cX12_twoOf 93 = .ok (.iconst 1, 1) := by decide +kernel
theorem dX12_twoOf_94 : decode cX12_twoOf 94 = .ok (.goto 4, 3) := by decide +kernel
theorem dX12_twoOf_97 : decode cX12_twoOf 97 = .ok (.iconst 0, 1) := by decide +kernel
theorem dX12_twoOf_98 : decode cX12_twoOf 98 = .ok (.ireturn, 1) := by decide +kernel
theorem dX12_twoOf_99 : decode cX12_twoOf 99 = .ok (.iload_n 1, 1) := by decide +kernel
theorem dX12_twoOf_100 : decode cX12_twoOf 100 = .ok (.iload_n 2, 1) := by decide +kernel
theorem dX12_twoOf_101 : decode cX12_twoOf 101 = .ok (.if_icmp .ne 7, 3) := by decide +kernel
theorem dX12_twoOf_104 : decode cX12_twoOf 104 = .ok (.iconst 1, 1) := by decide +kernel
theorem dX12_twoOf_105 : decode cX12_twoOf 105 = .ok (.goto 4, 3) := by decide +kernel
theorem dX12_twoOf_108 : decode cX12_twoOf 108 = .ok (.iconst 0, 1) := by decide +kernel
theorem dX12_twoOf_109 : decode cX12_twoOf 109 = .ok (.ireturn, 1) := by decide +kernel
theorem dX12_twoOf_110 : decode cX12_twoOf 110 = .ok (.iload_n 1, 1) := by decide +kernel
theorem dX12_twoOf_111 : decode cX12_twoOf 111 = .ok (.iload_n 2, 1) := by decide +kernel
theorem dX12_twoOf_112 : decode cX12_twoOf 112 = .ok (.iadd, 1) := by decide +kernel
theorem dX12_twoOf_113 : decode cX12_twoOf 113 = .ok (.ireturn, 1) := by decide +kernel
theorem dX12_twoOf_114 : decode cX12_twoOf 114 = .ok (.iload_n 1, 1) := by decide +kernel
theorem dX12_twoOf_115 : decode cX12_twoOf 115 = .ok (.iload_n 2, 1) := by decide +kernel
theorem dX12_twoOf_116 : decode cX12_twoOf 116 = .ok (.isub, 1) := by decide +kernel
theorem dX12_twoOf_117 : decode cX12_twoOf 117 = .ok (.ireturn, 1) := by decide +kernel
theorem dX12_twoOf_118 : decode cX12_twoOf 118 = .ok (.iload_n 1, 1) := by decide +kernel
theorem dX12_twoOf_119 : decode cX12_twoOf 119 = .ok (.iload_n 2, 1) := by decide +kernel
theorem dX12_twoOf_120 : decode cX12_twoOf 120 = .ok (.imul, 1) := by decide +kernel
theorem dX12_twoOf_121 : decode cX12_twoOf 121 = .ok (.ireturn, 1) := by decide +kernel
theorem dX12_gives_0 : decode cX12_gives 0 = .ok (.aload_n 0, 1) := by decide +kernel
theorem dX12_gives_1 : decode cX12_gives 1 = .ok (.getfield 229, 3) := by decide +kernel
theorem dX12_gives_4 : decode cX12_gives 4 = .ok (.ifCond .ne 32, 3) := by decide +kernel
theorem dX12_gives_7 : decode cX12_gives 7 = .ok (.iload_n 1, 1) := by decide +kernel
theorem dX12_gives_8 : decode cX12_gives 8 = .ok (.ifCond .ne 7, 3) := by decide +kernel
theorem dX12_gives_11 : decode cX12_gives 11 = .ok (.iconst 0, 1) := by decide +kernel
theorem dX12_gives_12 : decode cX12_gives 12 = .ok (.goto 23, 3) := by decide +kernel
theorem dX12_gives_15 : decode cX12_gives 15 = .ok (.iload_n 1, 1) := by decide +kernel
theorem dX12_gives_16 : decode cX12_gives 16 = .ok (.iconst 1, 1) := by decide +kernel
theorem dX12_gives_17 : decode cX12_gives 17 = .ok (.if_icmp .ne 12, 3) := by decide +kernel
theorem dX12_gives_20 : decode cX12_gives 20 = .ok (.aload_n 0, 1) := by decide +kernel
theorem dX12_gives_21 : decode cX12_gives 21 = .ok (.getfield 64, 3) := by decide +kernel
theorem dX12_gives_24 : decode cX12_gives 24 = .ok (.iconst 1, 1) := by decide +kernel
theorem dX12_gives_25 : decode cX12_gives 25 = .ok (.iaload, 1) := by decide +kernel
theorem dX12_gives_26 : decode cX12_gives 26 = .ok (.goto 9, 3) := by decide +kernel
theorem dX12_gives_29 : decode cX12_gives 29 = .ok (.aload_n 0, 1) := by decide +kernel
theorem dX12_gives_30 : decode cX12_gives 30 = .ok (.getfield 64, 3) := by decide +kernel
theorem dX12_gives_33 : decode cX12_gives 33 = .ok (.iconst 2, 1) := by decide +kernel
theorem dX12_gives_34 : decode cX12_gives 34 = .ok (.iaload, 1) := by decide +kernel
theorem dX12_gives_35 : decode cX12_gives 35 = .ok (.ireturn, 1) := by decide +kernel
theorem dX12_gives_36 : decode cX12_gives 36 = .ok (.iconst 0, 1) := by decide +kernel
theorem dX12_gives_37 : decode cX12_gives 37 = .ok (.istore_n 2, 1) := by decide +kernel
theorem dX12_gives_38 : decode cX12_gives 38 = .ok (.iload_n 1, 1) := by decide +kernel
theorem dX12_gives_39 : decode cX12_gives 39 = .ok (.ifCond .ne 7, 3) := by decide +kernel
theorem dX12_gives_42 : decode cX12_gives 42 = .ok (.iconst 0, 1) := by decide +kernel
theorem dX12_gives_43 : decode cX12_gives 43 = .ok (.goto 18, 3) := by decide +kernel
theorem dX12_gives_46 : decode cX12_gives 46 = .ok (.aload_n 0, 1) := by decide +kernel
theorem dX12_gives_47 : decode cX12_gives 47 = .ok (.getfield 58, 3) := by decide +kernel
theorem dX12_gives_50 : decode cX12_gives 50 = .ok (.iconst 3, 1) := by decide +kernel
theorem dX12_gives_51 : decode cX12_gives 51 = .ok (.aload_n 0, 1) := by decide +kernel
theorem dX12_gives_52 : decode cX12_gives 52 = .ok (.getfield 229, 3) := by decide +kernel
theorem dX12_gives_55 : decode cX12_gives 55 = .ok (.imul, 1) := by decide +kernel
theorem dX12_gives_56 : decode cX12_gives 56 = .ok (.iload_n 1, 1) := by decide +kernel
theorem dX12_gives_57 : decode cX12_gives 57 = .ok (.iadd, 1) := by decide +kernel
theorem dX12_gives_58 : decode cX12_gives 58 = .ok (.iconst 1, 1) := by decide +kernel
theorem dX12_gives_59 : decode cX12_gives 59 = .ok (.isub, 1) := by decide +kernel
theorem dX12_gives_60 : decode cX12_gives 60 = .ok (.iaload, 1) := by decide +kernel
theorem dX12_gives_61 : decode cX12_gives 61 = .ok (.istore_n 3, 1) := by decide +kernel
theorem dX12_gives_62 : decode cX12_gives 62 = .ok (.sipush 170, 3) := by decide +kernel
theorem dX12_gives_65 : decode cX12_gives 65 = .ok (.aload_n 0, 1) := by decide +kernel
theorem dX12_gives_66 : decode cX12_gives 66 = .ok (.getfield 229, 3) := by decide +kernel
theorem dX12_gives_69 : decode cX12_gives 69 = .ok (.imul, 1) := by decide +kernel
theorem dX12_gives_70 : decode cX12_gives 70 = .ok (.iload_n 3, 1) := by decide +kernel
theorem dX12_gives_71 : decode cX12_gives 71 = .ok (.iadd, 1) := by decide +kernel
theorem dX12_gives_72 : decode cX12_gives 72 = .ok (.istore 4, 2) := by decide +kernel
theorem dX12_gives_74 : decode cX12_gives 74 = .ok (.iload 4, 2) := by decide +kernel
theorem dX12_gives_76 : decode cX12_gives 76 = .ok (.sipush 170, 3) := by decide +kernel
theorem dX12_gives_79 : decode cX12_gives 79 = .ok (.aload_n 0, 1) := by decide +kernel
theorem dX12_gives_80 : decode cX12_gives 80 = .ok (.getfield 229, 3) := by decide +kernel
theorem dX12_gives_83 : decode cX12_gives 83 = .ok (.imul, 1) := by decide +kernel
theorem dX12_gives_84 : decode cX12_gives 84 = .ok (.aload_n 0, 1) := by decide +kernel
theorem dX12_gives_85 : decode cX12_gives 85 = .ok (.getfield 58, 3) := by decide +kernel
theorem dX12_gives_88 : decode cX12_gives 88 = .ok (.iconst 3, 1) := by decide +kernel
theorem dX12_gives_89 : decode cX12_gives 89 = .ok (.aload_n 0, 1) := by decide +kernel
theorem dX12_gives_90 : decode cX12_gives 90 = .ok (.getfield 229, 3) := by decide +kernel
theorem dX12_gives_93 : decode cX12_gives 93 = .ok (.imul, 1) := by decide +kernel
theorem dX12_gives_94 : decode cX12_gives 94 = .ok (.iload_n 1, 1) := by decide +kernel
theorem dX12_gives_95 : decode cX12_gives 95 = .ok (.iadd, 1) := by decide +kernel
theorem dX12_gives_96 : decode cX12_gives 96 = .ok (.iaload, 1) := by decide +kernel
theorem dX12_gives_97 : decode cX12_gives 97 = .ok (.iadd, 1) := by decide +kernel
theorem dX12_gives_98 : decode cX12_gives 98 = .ok (.if_icmp .ge 175, 3) := by decide +kernel
theorem dX12_gives_101 : decode cX12_gives 101 = .ok (.aload_n 0, 1) := by decide +kernel
theorem dX12_gives_102 : decode cX12_gives 102 = .ok (.getfield 52, 3) := by decide +kernel
theorem dX12_gives_105 : decode cX12_gives 105 = .ok (.iload 4, 2) := by decide +kernel
theorem dX12_gives_107 : decode cX12_gives 107 = .ok (.iaload, 1) := by decide +kernel
theorem dX12_gives_108 : decode cX12_gives 108 = .ok (.tableswitch 122 1 4 #[32, 51, 75, 102], 32) := by decide +kernel
theorem dX12_gives_140 : decode cX12_gives 140 = .ok (.aload_n 0, 1) := by decide +kernel
theorem dX12_gives_141 : decode cX12_gives 141 = .ok (.getfield 61, 3) := by decide +kernel
theorem dX12_gives_144 : decode cX12_gives 144 = .ok (.iload_n 2, 1) := by decide +kernel
theorem dX12_gives_145 : decode cX12_gives 145 = .ok (.aload_n 0, 1) := by decide +kernel
theorem dX12_gives_146 : decode cX12_gives 146 = .ok (.getfield 55, 3) := by decide +kernel
theorem dX12_gives_149 : decode cX12_gives 149 = .ok (.iload 4, 2) := by decide +kernel
theorem dX12_gives_151 : decode cX12_gives 151 = .ok (.iaload, 1) := by decide +kernel
theorem dX12_gives_152 : decode cX12_gives 152 = .ok (.iastore, 1) := by decide +kernel
theorem dX12_gives_153 : decode cX12_gives 153 = .ok (.iinc 2 1, 3) := by decide +kernel
theorem dX12_gives_156 : decode cX12_gives 156 = .ok (.goto 111, 3) := by decide +kernel
theorem dX12_gives_159 : decode cX12_gives 159 = .ok (.aload_n 0, 1) := by decide +kernel
theorem dX12_gives_160 : decode cX12_gives 160 = .ok (.getfield 61, 3) := by decide +kernel
theorem dX12_gives_163 : decode cX12_gives 163 = .ok (.iload_n 2, 1) := by decide +kernel
theorem dX12_gives_164 : decode cX12_gives 164 = .ok (.aload_n 0, 1) := by decide +kernel
theorem dX12_gives_165 : decode cX12_gives 165 = .ok (.getfield 64, 3) := by decide +kernel
theorem dX12_gives_168 : decode cX12_gives 168 = .ok (.aload_n 0, 1) := by decide +kernel
theorem dX12_gives_169 : decode cX12_gives 169 = .ok (.getfield 55, 3) := by decide +kernel
theorem dX12_gives_172 : decode cX12_gives 172 = .ok (.iload 4, 2) := by decide +kernel
theorem dX12_gives_174 : decode cX12_gives 174 = .ok (.iaload, 1) := by decide +kernel
theorem dX12_gives_175 : decode cX12_gives 175 = .ok (.iaload, 1) := by decide +kernel
theorem dX12_gives_176 : decode cX12_gives 176 = .ok (.iastore, 1) := by decide +kernel
theorem dX12_gives_177 : decode cX12_gives 177 = .ok (.iinc 2 1, 3) := by decide +kernel
theorem dX12_gives_180 : decode cX12_gives 180 = .ok (.goto 87, 3) := by decide +kernel
theorem dX12_gives_183 : decode cX12_gives 183 = .ok (.aload_n 0, 1) := by decide +kernel
theorem dX12_gives_184 : decode cX12_gives 184 = .ok (.getfield 61, 3) := by decide +kernel
theorem dX12_gives_187 : decode cX12_gives 187 = .ok (.iload_n 2, 1) := by decide +kernel
theorem dX12_gives_188 : decode cX12_gives 188 = .ok (.iconst 1, 1) := by decide +kernel
theorem dX12_gives_189 : decode cX12_gives 189 = .ok (.isub, 1) := by decide +kernel
theorem dX12_gives_190 : decode cX12_gives 190 = .ok (.aload_n 0, 1) := by decide +kernel
theorem dX12_gives_191 : decode cX12_gives 191 = .ok (.getfield 61, 3) := by decide +kernel
theorem dX12_gives_194 : decode cX12_gives 194 = .ok (.iload_n 2, 1) := by decide +kernel
theorem dX12_gives_195 : decode cX12_gives 195 = .ok (.iconst 1, 1) := by decide +kernel
theorem dX12_gives_196 : decode cX12_gives 196 = .ok (.isub, 1) := by decide +kernel
theorem dX12_gives_197 : decode cX12_gives 197 = .ok (.iaload, 1) := by decide +kernel
theorem dX12_gives_198 : decode cX12_gives 198 = .ok (.ifCond .ne 7, 3) := by decide +kernel
theorem dX12_gives_201 : decode cX12_gives 201 = .ok (.iconst 1, 1) := by decide +kernel
theorem dX12_gives_202 : decode cX12_gives 202 = .ok (.goto 4, 3) := by decide +kernel
theorem dX12_gives_205 : decode cX12_gives 205 = .ok (.iconst 0, 1) := by decide +kernel
theorem dX12_gives_206 : decode cX12_gives 206 = .ok (.iastore, 1) := by decide +kernel
theorem dX12_gives_207 : decode cX12_gives 207 = .ok (.goto 60, 3) := by decide +kernel
theorem dX12_gives_210 : decode cX12_gives 210 = .ok (.aload_n 0, 1) := by decide +kernel
theorem dX12_gives_211 : decode cX12_gives 211 = .ok (.getfield 61, 3) := by decide +kernel
theorem dX12_gives_214 : decode cX12_gives 214 = .ok (.iload_n 2, 1) := by decide +kernel
theorem dX12_gives_215 : decode cX12_gives 215 = .ok (.iconst 1, 1) := by decide +kernel
theorem dX12_gives_216 : decode cX12_gives 216 = .ok (.isub, 1) := by decide +kernel
theorem dX12_gives_217 : decode cX12_gives 217 = .ok (.aload_n 0, 1) := by decide +kernel
theorem dX12_gives_218 : decode cX12_gives 218 = .ok (.getfield 61, 3) := by decide +kernel
theorem dX12_gives_221 : decode cX12_gives 221 = .ok (.iload_n 2, 1) := by decide +kernel
theorem dX12_gives_222 : decode cX12_gives 222 = .ok (.iconst 1, 1) := by decide +kernel
theorem dX12_gives_223 : decode cX12_gives 223 = .ok (.isub, 1) := by decide +kernel
theorem dX12_gives_224 : decode cX12_gives 224 = .ok (.iaload, 1) := by decide +kernel
theorem dX12_gives_225 : decode cX12_gives 225 = .ok (.ineg, 1) := by decide +kernel
theorem dX12_gives_226 : decode cX12_gives 226 = .ok (.iastore, 1) := by decide +kernel
theorem dX12_gives_227 : decode cX12_gives 227 = .ok (.goto 40, 3) := by decide +kernel
theorem dX12_gives_230 : decode cX12_gives 230 = .ok (.aload_n 0, 1) := by decide +kernel
theorem dX12_gives_231 : decode cX12_gives 231 = .ok (.getfield 61, 3) := by decide +kernel
theorem dX12_gives_234 : decode cX12_gives 234 = .ok (.iload_n 2, 1) := by decide +kernel
theorem dX12_gives_235 : decode cX12_gives 235 = .ok (.iconst 2, 1) := by decide +kernel
theorem dX12_gives_236 : decode cX12_gives 236 = .ok (.isub, 1) := by decide +kernel
theorem dX12_gives_237 : decode cX12_gives 237 = .ok (.aload_n 0, 1) := by decide +kernel
theorem dX12_gives_238 : decode cX12_gives 238 = .ok (.getfield 52, 3) := by decide +kernel
theorem dX12_gives_241 : decode cX12_gives 241 = .ok (.iload 4, 2) := by decide +kernel
theorem dX12_gives_243 : decode cX12_gives 243 = .ok (.iaload, 1) := by decide +kernel
theorem dX12_gives_244 : decode cX12_gives 244 = .ok (.aload_n 0, 1) := by decide +kernel
theorem dX12_gives_245 : decode cX12_gives 245 = .ok (.getfield 61, 3) := by decide +kernel
theorem dX12_gives_248 : decode cX12_gives 248 = .ok (.iload_n 2, 1) := by decide +kernel
theorem dX12_gives_249 : decode cX12_gives 249 = .ok (.iconst 2, 1) := by decide +kernel
theorem dX12_gives_250 : decode cX12_gives 250 = .ok (.isub, 1) := by decide +kernel
theorem dX12_gives_251 : decode cX12_gives 251 = .ok (.iaload, 1) := by decide +kernel
theorem dX12_gives_252 : decode cX12_gives 252 = .ok (.aload_n 0, 1) := by decide +kernel
theorem dX12_gives_253 : decode cX12_gives 253 = .ok (.getfield 61, 3) := by decide +kernel
theorem dX12_gives_256 : decode cX12_gives 256 = .ok (.iload_n 2, 1) := by decide +kernel
theorem dX12_gives_257 : decode cX12_gives 257 = .ok (.iconst 1, 1) := by decide +kernel
theorem dX12_gives_258 : decode cX12_gives 258 = .ok (.isub, 1) := by decide +kernel
theorem dX12_gives_259 : decode cX12_gives 259 = .ok (.iaload, 1) := by decide +kernel
theorem dX12_gives_260 : decode cX12_gives 260 = .ok (.invokestatic 232, 3) := by decide +kernel
theorem dX12_gives_263 : decode cX12_gives 263 = .ok (.iastore, 1) := by decide +kernel
theorem dX12_gives_264 : decode cX12_gives 264 = .ok (.iinc 2 (-1), 3) := by decide +kernel
theorem dX12_gives_267 : decode cX12_gives 267 = .ok (.iinc 4 1, 3) := by decide +kernel
theorem dX12_gives_270 : decode cX12_gives 270 = .ok (.goto (-196), 3) := by decide +kernel
theorem dX12_gives_273 : decode cX12_gives 273 = .ok (.aload_n 0, 1) := by decide +kernel
theorem dX12_gives_274 : decode cX12_gives 274 = .ok (.getfield 61, 3) := by decide +kernel
theorem dX12_gives_277 : decode cX12_gives 277 = .ok (.iconst 0, 1) := by decide +kernel
theorem dX12_gives_278 : decode cX12_gives 278 = .ok (.iaload, 1) := by decide +kernel
theorem dX12_gives_279 : decode cX12_gives 279 = .ok (.ireturn, 1) := by decide +kernel
theorem dX12_findFacts_0 : decode cX12_findFacts 0 = .ok (.aload_n 0, 1) := by decide +kernel
theorem dX12_findFacts_1 : decode cX12_findFacts 1 = .ok (.getfield 64, 3) := by decide +kernel
theorem dX12_findFacts_4 : decode cX12_findFacts 4 = .ok (.iconst 0, 1) := by decide +kernel
theorem dX12_findFacts_5 : decode cX12_findFacts 5 = .ok (.iload_n 1, 1) := by decide +kernel
theorem dX12_findFacts_6 : decode cX12_findFacts 6 = .ok (.iastore, 1) := by decide +kernel
theorem dX12_findFacts_7 : decode cX12_findFacts 7 = .ok (.aload_n 0, 1) := by decide +kernel
theorem dX12_findFacts_8 : decode cX12_findFacts 8 = .ok (.getfield 64, 3) := by decide +kernel
theorem dX12_findFacts_11 : decode cX12_findFacts 11 = .ok (.iconst 1, 1) := by decide +kernel
theorem dX12_findFacts_12 : decode cX12_findFacts 12 = .ok (.iload_n 2, 1) := by decide +kernel
theorem dX12_findFacts_13 : decode cX12_findFacts 13 = .ok (.iastore, 1) := by decide +kernel
theorem dX12_findFacts_14 : decode cX12_findFacts 14 = .ok (.aload_n 0, 1) := by decide +kernel
theorem dX12_findFacts_15 : decode cX12_findFacts 15 = .ok (.getfield 64, 3) := by decide +kernel
theorem dX12_findFacts_18 : decode cX12_findFacts 18 = .ok (.iconst 2, 1) := by decide +kernel
theorem dX12_findFacts_19 : decode cX12_findFacts 19 = .ok (.iload_n 3, 1) := by decide +kernel
theorem dX12_findFacts_20 : decode cX12_findFacts 20 = .ok (.iastore, 1) := by decide +kernel
theorem dX12_findFacts_21 : decode cX12_findFacts 21 = .ok (.aload_n 0, 1) := by decide +kernel
theorem dX12_findFacts_22 : decode cX12_findFacts 22 = .ok (.getfield 64, 3) := by decide +kernel
theorem dX12_findFacts_25 : decode cX12_findFacts 25 = .ok (.iconst 3, 1) := by decide +kernel
theorem dX12_findFacts_26 : decode cX12_findFacts 26 = .ok (.iload 4, 2) := by decide +kernel
theorem dX12_findFacts_28 : decode cX12_findFacts 28 = .ok (.iastore, 1) := by decide +kernel
theorem dX12_findFacts_29 : decode cX12_findFacts 29 = .ok (.aload_n 0, 1) := by decide +kernel
theorem dX12_findFacts_30 : decode cX12_findFacts 30 = .ok (.getfield 64, 3) := by decide +kernel
theorem dX12_findFacts_33 : decode cX12_findFacts 33 = .ok (.iconst 4, 1) := by decide +kernel
theorem dX12_findFacts_34 : decode cX12_findFacts 34 = .ok (.iload 5, 2) := by decide +kernel
theorem dX12_findFacts_36 : decode cX12_findFacts 36 = .ok (.iastore, 1) := by decide +kernel
theorem dX12_findFacts_37 : decode cX12_findFacts 37 = .ok (.aload_n 0, 1) := by decide +kernel
theorem dX12_findFacts_38 : decode cX12_findFacts 38 = .ok (.getfield 64, 3) := by decide +kernel
theorem dX12_findFacts_41 : decode cX12_findFacts 41 = .ok (.iconst 5, 1) := by decide +kernel
theorem dX12_findFacts_42 : decode cX12_findFacts 42 = .ok (.iload 6, 2) := by decide +kernel
theorem dX12_findFacts_44 : decode cX12_findFacts 44 = .ok (.iastore, 1) := by decide +kernel
theorem dX12_findFacts_45 : decode cX12_findFacts 45 = .ok (.return_, 1) := by decide +kernel
theorem dX12_bear_0 : decode cX12_bear 0 = .ok (.aload_n 0, 1) := by decide +kernel
theorem dX12_bear_1 : decode cX12_bear 1 = .ok (.aload_n 0, 1) := by decide +kernel
theorem dX12_bear_2 : decode cX12_bear 2 = .ok (.iload_n 1, 1) := by decide +kernel
theorem dX12_bear_3 : decode cX12_bear 3 = .ok (.iload_n 2, 1) := by decide +kernel
theorem dX12_bear_4 : decode cX12_bear 4 = .ok (.invokestatic 236, 3) := by decide +kernel
theorem dX12_bear_7 : decode cX12_bear 7 = .ok (.invokevirtual 124, 3) := by decide +kernel
theorem dX12_bear_10 : decode cX12_bear 10 = .ok (.aload_n 0, 1) := by decide +kernel
theorem dX12_bear_11 : decode cX12_bear 11 = .ok (.iload_n 1, 1) := by decide +kernel
theorem dX12_bear_12 : decode cX12_bear 12 = .ok (.iload_n 2, 1) := by decide +kernel
theorem dX12_bear_13 : decode cX12_bear 13 = .ok (.invokestatic 239, 3) := by decide +kernel
theorem dX12_bear_16 : decode cX12_bear 16 = .ok (.invokevirtual 124, 3) := by decide +kernel
theorem dX12_bear_19 : decode cX12_bear 19 = .ok (.iadd, 1) := by decide +kernel
theorem dX12_bear_20 : decode cX12_bear 20 = .ok (.aload_n 0, 1) := by decide +kernel
theorem dX12_bear_21 : decode cX12_bear 21 = .ok (.iload_n 1, 1) := by decide +kernel
theorem dX12_bear_22 : decode cX12_bear 22 = .ok (.iload_n 2, 1) := by decide +kernel
theorem dX12_bear_23 : decode cX12_bear 23 = .ok (.invokevirtual 130, 3) := by decide +kernel
theorem dX12_bear_26 : decode cX12_bear 26 = .ok (.aload_n 0, 1) := by decide +kernel
theorem dX12_bear_27 : decode cX12_bear 27 = .ok (.getfield 25, 3) := by decide +kernel
theorem dX12_bear_30 : decode cX12_bear 30 = .ok (.iload_n 1, 1) := by decide +kernel
theorem dX12_bear_31 : decode cX12_bear 31 = .ok (.iaload, 1) := by decide +kernel
theorem dX12_bear_32 : decode cX12_bear 32 = .ok (.aload_n 0, 1) := by decide +kernel
theorem dX12_bear_33 : decode cX12_bear 33 = .ok (.getfield 28, 3) := by decide +kernel
theorem dX12_bear_36 : decode cX12_bear 36 = .ok (.iload_n 1, 1) := by decide +kernel
theorem dX12_bear_37 : decode cX12_bear 37 = .ok (.iaload, 1) := by decide +kernel
theorem dX12_bear_38 : decode cX12_bear 38 = .ok (.iconst 0, 1) := by decide +kernel
theorem dX12_bear_39 : decode cX12_bear 39 = .ok (.iload_n 2, 1) := by decide +kernel
theorem dX12_bear_40 : decode cX12_bear 40 = .ok (.invokevirtual 242, 3) := by decide +kernel
theorem dX12_bear_43 : decode cX12_bear 43 = .ok (.aload_n 0, 1) := by decide +kernel
theorem dX12_bear_44 : decode cX12_bear 44 = .ok (.iconst 0, 1) := by decide +kernel
theorem dX12_bear_45 : decode cX12_bear 45 = .ok (.invokevirtual 246, 3) := by decide +kernel
theorem dX12_bear_48 : decode cX12_bear 48 = .ok (.bipush 99, 2) := by decide +kernel
theorem dX12_bear_50 : decode cX12_bear 50 = .ok (.invokestatic 120, 3) := by decide +kernel
theorem dX12_bear_53 : decode cX12_bear 53 = .ok (.ireturn, 1) := by decide +kernel
theorem dX12_keep_0 : decode cX12_keep 0 = .ok (.aload_n 0, 1) := by decide +kernel
theorem dX12_keep_1 : decode cX12_keep 1 = .ok (.aload_n 0, 1) := by decide +kernel
theorem dX12_keep_2 : decode cX12_keep 2 = .ok (.iload_n 1, 1) := by decide +kernel
theorem dX12_keep_3 : decode cX12_keep 3 = .ok (.invokevirtual 140, 3) := by decide +kernel
theorem dX12_keep_6 : decode cX12_keep 6 = .ok (.iconst 0, 1) := by decide +kernel
theorem dX12_keep_7 : decode cX12_keep 7 = .ok (.aload_n 0, 1) := by decide +kernel
theorem dX12_keep_8 : decode cX12_keep 8 = .ok (.getfield 25, 3) := by decide +kernel
theorem dX12_keep_11 : decode cX12_keep 11 = .ok (.iload_n 1, 1) := by decide +kernel
theorem dX12_keep_12 : decode cX12_keep 12 = .ok (.iaload, 1) := by decide +kernel
theorem dX12_keep_13 : decode cX12_keep 13 = .ok (.aload_n 0, 1) := by decide +kernel
theorem dX12_keep_14 : decode cX12_keep 14 = .ok (.getfield 28, 3) := by decide +kernel
theorem dX12_keep_17 : decode cX12_keep 17 = .ok (.iload_n 1, 1) := by decide +kernel
theorem dX12_keep_18 : decode cX12_keep 18 = .ok (.iaload, 1) := by decide +kernel
theorem dX12_keep_19 : decode cX12_keep 19 = .ok (.iconst 0, 1) := by decide +kernel
theorem dX12_keep_20 : decode cX12_keep 20 = .ok (.iconst 0, 1) := by decide +kernel
theorem dX12_keep_21 : decode cX12_keep 21 = .ok (.invokevirtual 242, 3) := by decide +kernel
theorem dX12_keep_24 : decode cX12_keep 24 = .ok (.aload_n 0, 1) := by decide +kernel
theorem dX12_keep_25 : decode cX12_keep 25 = .ok (.iconst 2, 1) := by decide +kernel
theorem dX12_keep_26 : decode cX12_keep 26 = .ok (.invokevirtual 246, 3) := by decide +kernel
theorem dX12_keep_29 : decode cX12_keep 29 = .ok (.bipush 99, 2) := by decide +kernel
theorem dX12_keep_31 : decode cX12_keep 31 = .ok (.invokestatic 120, 3) := by decide +kernel
theorem dX12_keep_34 : decode cX12_keep 34 = .ok (.ireturn, 1) := by decide +kernel
theorem dX12_seenOf_0 : decode cX12_seenOf 0 = .ok (.aload_n 0, 1) := by decide +kernel
theorem dX12_seenOf_1 : decode cX12_seenOf 1 = .ok (.iload_n 1, 1) := by decide +kernel
theorem dX12_seenOf_2 : decode cX12_seenOf 2 = .ok (.invokevirtual 146, 3) := by decide +kernel
theorem dX12_seenOf_5 : decode cX12_seenOf 5 = .ok (.aload_n 0, 1) := by decide +kernel
theorem dX12_seenOf_6 : decode cX12_seenOf 6 = .ok (.iload_n 2, 1) := by decide +kernel
theorem dX12_seenOf_7 : decode cX12_seenOf 7 = .ok (.invokevirtual 146, 3) := by decide +kernel
theorem dX12_seenOf_10 : decode cX12_seenOf 10 = .ok (.isub, 1) := by decide +kernel
theorem dX12_seenOf_11 : decode cX12_seenOf 11 = .ok (.istore_n 3, 1) := by decide +kernel
theorem dX12_seenOf_12 : decode cX12_seenOf 12 = .ok (.aload_n 0, 1) := by decide +kernel
theorem dX12_seenOf_13 : decode cX12_seenOf 13 = .ok (.aload_n 0, 1) := by decide +kernel
theorem dX12_seenOf_14 : decode cX12_seenOf 14 = .ok (.getfield 7, 3) := by decide +kernel
theorem dX12_seenOf_17 : decode cX12_seenOf 17 = .ok (.iload_n 1, 1) := by decide +kernel
theorem dX12_seenOf_18 : decode cX12_seenOf 18 = .ok (.iaload, 1) := by decide +kernel
theorem dX12_seenOf_19 : decode cX12_seenOf 19 = .ok (.aload_n 0, 1) := by decide +kernel
theorem dX12_seenOf_20 : decode cX12_seenOf 20 = .ok (.getfield 7, 3) := by decide +kernel
theorem dX12_seenOf_23 : decode cX12_seenOf 23 = .ok (.iload_n 2, 1) := by decide +kernel
theorem dX12_seenOf_24 : decode cX12_seenOf 24 = .ok (.iaload, 1) := by decide +kernel
theorem dX12_seenOf_25 : decode cX12_seenOf 25 = .ok (.iadd, 1) := by decide +kernel
theorem dX12_seenOf_26 : decode cX12_seenOf 26 = .ok (.iload_n 3, 1) := by decide +kernel
theorem dX12_seenOf_27 : decode cX12_seenOf 27 = .ok (.ifCond .ge 8, 3) := by decide +kernel
theorem dX12_seenOf_30 : decode cX12_seenOf 30 = .ok (.iload_n 3, 1) := by decide +kernel
theorem dX12_seenOf_31 : decode cX12_seenOf 31 = .ok (.ineg, 1) := by decide +kernel
theorem dX12_seenOf_32 : decode cX12_seenOf 32 = .ok (.goto 4, 3) := by decide +kernel
theorem dX12_seenOf_35 : decode cX12_seenOf 35 = .ok (.iload_n 3, 1) := by decide +kernel
theorem dX12_seenOf_36 : decode cX12_seenOf 36 = .ok (.iconst 0, 1) := by decide +kernel
theorem dX12_seenOf_37 : decode cX12_seenOf 37 = .ok (.iconst 0, 1) := by decide +kernel
theorem dX12_seenOf_38 : decode cX12_seenOf 38 = .ok (.aload_n 0, 1) := by decide +kernel
theorem dX12_seenOf_39 : decode cX12_seenOf 39 = .ok (.getfield 16, 3) := by decide +kernel
theorem dX12_seenOf_42 : decode cX12_seenOf 42 = .ok (.iload_n 1, 1) := by decide +kernel
theorem dX12_seenOf_43 : decode cX12_seenOf 43 = .ok (.iaload, 1) := by decide +kernel
theorem dX12_seenOf_44 : decode cX12_seenOf 44 = .ok (.aload_n 0, 1) := by decide +kernel
theorem dX12_seenOf_45 : decode cX12_seenOf 45 = .ok (.getfield 16, 3) := by decide +kernel
theorem dX12_seenOf_48 : decode cX12_seenOf 48 = .ok (.iload_n 2, 1) := by decide +kernel
theorem dX12_seenOf_49 : decode cX12_seenOf 49 = .ok (.iaload, 1) := by decide +kernel
theorem dX12_seenOf_50 : decode cX12_seenOf 50 = .ok (.if_icmp .ne 7, 3) := by decide +kernel
theorem dX12_seenOf_53 : decode cX12_seenOf 53 = .ok (.iconst 0, 1) := by decide +kernel
theorem dX12_seenOf_54 : decode cX12_seenOf 54 = .ok (.goto 4, 3) := by decide +kernel
theorem dX12_seenOf_57 : decode cX12_seenOf 57 = .ok (.iconst 1, 1) := by decide +kernel
theorem dX12_seenOf_58 : decode cX12_seenOf 58 = .ok (.aload_n 0, 1) := by decide +kernel
theorem dX12_seenOf_59 : decode cX12_seenOf 59 = .ok (.getfield 16, 3) := by decide +kernel
theorem dX12_seenOf_62 : decode cX12_seenOf 62 = .ok (.iload_n 1, 1) := by decide +kernel
theorem dX12_seenOf_63 : decode cX12_seenOf 63 = .ok (.iload_n 2, 1) := by decide +kernel
theorem dX12_seenOf_64 : decode cX12_seenOf 64 = .ok (.if_icmp .ge 7, 3) := by decide +kernel
theorem dX12_seenOf_67 : decode cX12_seenOf 67 = .ok (.iload_n 1, 1) := by decide +kernel
theorem dX12_seenOf_68 : decode cX12_seenOf 68 = .ok (.goto 4, 3) := by decide +kernel
theorem dX12_seenOf_71 : decode cX12_seenOf 71 = .ok (.iload_n 2, 1) := by decide +kernel
theorem dX12_seenOf_72 : decode cX12_seenOf 72 = .ok (.iaload, 1) := by decide +kernel
theorem dX12_seenOf_73 : decode cX12_seenOf 73 = .ok (.invokevirtual 242, 3) := by decide +kernel
theorem dX12_seenOf_76 : decode cX12_seenOf 76 = .ok (.aload_n 0, 1) := by decide +kernel
theorem dX12_seenOf_77 : decode cX12_seenOf 77 = .ok (.iconst 1, 1) := by decide +kernel
theorem dX12_seenOf_78 : decode cX12_seenOf 78 = .ok (.invokevirtual 246, 3) := by decide +kernel
theorem dX12_seenOf_81 : decode cX12_seenOf 81 = .ok (.sipush 999, 3) := by decide +kernel
theorem dX12_seenOf_84 : decode cX12_seenOf 84 = .ok (.invokestatic 120, 3) := by decide +kernel
theorem dX12_seenOf_87 : decode cX12_seenOf 87 = .ok (.ireturn, 1) := by decide +kernel
theorem dX12_seen_0 : decode cX12_seen 0 = .ok (.aload_n 0, 1) := by decide +kernel
theorem dX12_seen_1 : decode cX12_seen 1 = .ok (.iload_n 1, 1) := by decide +kernel
theorem dX12_seen_2 : decode cX12_seen 2 = .ok (.invokevirtual 116, 3) := by decide +kernel
theorem dX12_seen_5 : decode cX12_seen 5 = .ok (.ifCond .eq 25, 3) := by decide +kernel
theorem dX12_seen_8 : decode cX12_seen 8 = .ok (.aload_n 0, 1) := by decide +kernel
theorem dX12_seen_9 : decode cX12_seen 9 = .ok (.iload_n 2, 1) := by decide +kernel
theorem dX12_seen_10 : decode cX12_seen 10 = .ok (.invokevirtual 116, 3) := by decide +kernel
theorem dX12_seen_13 : decode cX12_seen 13 = .ok (.ifCond .eq 17, 3) := by decide +kernel
theorem dX12_seen_16 : decode cX12_seen 16 = .ok (.iload_n 1, 1) := by decide +kernel
theorem dX12_seen_17 : decode cX12_seen 17 = .ok (.iload_n 2, 1) := by decide +kernel
theorem dX12_seen_18 : decode cX12_seen 18 = .ok (.if_icmp .eq 12, 3) := by decide +kernel
theorem dX12_seen_21 : decode cX12_seen 21 = .ok (.aload_n 0, 1) := by decide +kernel
theorem dX12_seen_22 : decode cX12_seen 22 = .ok (.iload_n 1, 1) := by decide +kernel
theorem dX12_seen_23 : decode cX12_seen 23 = .ok (.iload_n 2, 1) := by decide +kernel
theorem dX12_seen_24 : decode cX12_seen 24 = .ok (.invokevirtual 249, 3) := by decide +kernel
theorem dX12_seen_27 : decode cX12_seen 27 = .ok (.goto 5, 3) := by decide +kernel
theorem dX12_seen_30 : decode cX12_seen 30 = .ok (.bipush (-5), 2) := by decide +kernel
theorem dX12_seen_32 : decode cX12_seen 32 = .ok (.ireturn, 1) := by decide +kernel
theorem dX12_doMeet_0 : decode cX12_doMeet 0 = .ok (.iload_n 3, 1) := by decide +kernel
theorem dX12_doMeet_1 : decode cX12_doMeet 1 = .ok (.iload 4, 2) := by decide +kernel
theorem dX12_doMeet_3 : decode cX12_doMeet 3 = .ok (.if_icmp .eq 26, 3) := by decide +kernel
theorem dX12_doMeet_6 : decode cX12_doMeet 6 = .ok (.aload_n 0, 1) := by decide +kernel
theorem dX12_doMeet_7 : decode cX12_doMeet 7 = .ok (.iload_n 3, 1) := by decide +kernel
theorem dX12_doMeet_8 : decode cX12_doMeet 8 = .ok (.iload 4, 2) := by decide +kernel
theorem dX12_doMeet_10 : decode cX12_doMeet 10 = .ok (.invokevirtual 249, 3) := by decide +kernel
theorem dX12_doMeet_13 : decode cX12_doMeet 13 = .ok (.aload_n 0, 1) := by decide +kernel
theorem dX12_doMeet_14 : decode cX12_doMeet 14 = .ok (.iload_n 1, 1) := by decide +kernel
theorem dX12_doMeet_15 : decode cX12_doMeet 15 = .ok (.iload_n 2, 1) := by decide +kernel
theorem dX12_doMeet_16 : decode cX12_doMeet 16 = .ok (.invokevirtual 130, 3) := by decide +kernel
theorem dX12_doMeet_19 : decode cX12_doMeet 19 = .ok (.aload_n 0, 1) := by decide +kernel
theorem dX12_doMeet_20 : decode cX12_doMeet 20 = .ok (.iload_n 1, 1) := by decide +kernel
theorem dX12_doMeet_21 : decode cX12_doMeet 21 = .ok (.iload_n 2, 1) := by decide +kernel
theorem dX12_doMeet_22 : decode cX12_doMeet 22 = .ok (.invokevirtual 133, 3) := by decide +kernel
theorem dX12_doMeet_25 : decode cX12_doMeet 25 = .ok (.iadd, 1) := by decide +kernel
theorem dX12_doMeet_26 : decode cX12_doMeet 26 = .ok (.if_icmp .gt 7, 3) := by decide +kernel
theorem dX12_doMeet_29 : decode cX12_doMeet 29 = .ok (.iconst 1, 1) := by decide +kernel
theorem dX12_doMeet_30 : decode cX12_doMeet 30 = .ok (.goto 4, 3) := by decide +kernel
theorem dX12_doMeet_33 : decode cX12_doMeet 33 = .ok (.iconst 0, 1) := by decide +kernel
theorem dX12_doMeet_34 : decode cX12_doMeet 34 = .ok (.ireturn, 1) := by decide +kernel
theorem dX12_mayMeet_0 : decode cX12_mayMeet 0 = .ok (.aload_n 0, 1) := by decide +kernel
theorem dX12_mayMeet_1 : decode cX12_mayMeet 1 = .ok (.iload_n 1, 1) := by decide +kernel
theorem dX12_mayMeet_2 : decode cX12_mayMeet 2 = .ok (.invokevirtual 127, 3) := by decide +kernel
theorem dX12_mayMeet_5 : decode cX12_mayMeet 5 = .ok (.ifCond .eq 38, 3) := by decide +kernel
theorem dX12_mayMeet_8 : decode cX12_mayMeet 8 = .ok (.iload_n 2, 1) := by decide +kernel
theorem dX12_mayMeet_9 : decode cX12_mayMeet 9 = .ok (.iconst 0, 1) := by decide +kernel
theorem dX12_mayMeet_10 : decode cX12_mayMeet 10 = .ok (.iconst 5, 1) := by decide +kernel
theorem dX12_mayMeet_11 : decode cX12_mayMeet 11 = .ok (.invokestatic 109, 3) := by decide +kernel
theorem dX12_mayMeet_14 : decode cX12_mayMeet 14 = .ok (.ifCond .eq 29, 3) := by decide +kernel
theorem dX12_mayMeet_17 : decode cX12_mayMeet 17 = .ok (.iload_n 3, 1) := by decide +kernel
theorem dX12_mayMeet_18 : decode cX12_mayMeet 18 = .ok (.ifCond .lt 25, 3) := by decide +kernel
theorem dX12_mayMeet_21 : decode cX12_mayMeet 21 = .ok (.aload_n 0, 1) := by decide +kernel
theorem dX12_mayMeet_22 : decode cX12_mayMeet 22 = .ok (.iload_n 3, 1) := by decide +kernel
theorem dX12_mayMeet_23 : decode cX12_mayMeet 23 = .ok (.bipush 100, 2) := by decide +kernel
theorem dX12_mayMeet_25 : decode cX12_mayMeet 25 = .ok (.idiv, 1) := by decide +kernel
theorem dX12_mayMeet_26 : decode cX12_mayMeet 26 = .ok (.invokevirtual 116, 3) := by decide +kernel
theorem dX12_mayMeet_29 : decode cX12_mayMeet 29 = .ok (.ifCond .eq 14, 3) := by decide +kernel
theorem dX12_mayMeet_32 : decode cX12_mayMeet 32 = .ok (.aload_n 0, 1) := by decide +kernel
theorem dX12_mayMeet_33 : decode cX12_mayMeet 33 = .ok (.iload_n 3, 1) := by decide +kernel
theorem dX12_mayMeet_34 : decode cX12_mayMeet 34 = .ok (.bipush 100, 2) := by decide +kernel
theorem dX12_mayMeet_36 : decode cX12_mayMeet 36 = .ok (.irem, 1) := by decide +kernel
theorem dX12_mayMeet_37 : decode cX12_mayMeet 37 = .ok (.invokevirtual 116, 3) := by decide +kernel
theorem dX12_mayMeet_40 : decode cX12_mayMeet 40 = .ok (.ifCond .ne 6, 3) := by decide +kernel
theorem dX12_mayMeet_43 : decode cX12_mayMeet 43 = .ok (.bipush (-2), 2) := by decide +kernel
theorem dX12_mayMeet_45 : decode cX12_mayMeet 45 = .ok (.ireturn, 1) := by decide +kernel
theorem dX12_mayMeet_46 : decode cX12_mayMeet 46 = .ok (.aload_n 0, 1) := by decide +kernel
theorem dX12_mayMeet_47 : decode cX12_mayMeet 47 = .ok (.iload_n 1, 1) := by decide +kernel
theorem dX12_mayMeet_48 : decode cX12_mayMeet 48 = .ok (.iload_n 2, 1) := by decide +kernel
theorem dX12_mayMeet_49 : decode cX12_mayMeet 49 = .ok (.iload_n 3, 1) := by decide +kernel
theorem dX12_mayMeet_50 : decode cX12_mayMeet 50 = .ok (.bipush 100, 2) := by decide +kernel
theorem dX12_mayMeet_52 : decode cX12_mayMeet 52 = .ok (.idiv, 1) := by decide +kernel
theorem dX12_mayMeet_53 : decode cX12_mayMeet 53 = .ok (.iload_n 3, 1) := by decide +kernel
theorem dX12_mayMeet_54 : decode cX12_mayMeet 54 = .ok (.bipush 100, 2) := by decide +kernel
theorem dX12_mayMeet_56 : decode cX12_mayMeet 56 = .ok (.irem, 1) := by decide +kernel
theorem dX12_mayMeet_57 : decode cX12_mayMeet 57 = .ok (.invokevirtual 252, 3) := by decide +kernel
theorem dX12_mayMeet_60 : decode cX12_mayMeet 60 = .ok (.ifCond .eq 7, 3) := by decide +kernel
theorem dX12_mayMeet_63 : decode cX12_mayMeet 63 = .ok (.iconst 1, 1) := by decide +kernel
theorem dX12_mayMeet_64 : decode cX12_mayMeet 64 = .ok (.goto 4, 3) := by decide +kernel
theorem dX12_mayMeet_67 : decode cX12_mayMeet 67 = .ok (.iconst 0, 1) := by decide +kernel
theorem dX12_mayMeet_68 : decode cX12_mayMeet 68 = .ok (.ireturn, 1) := by decide +kernel
theorem dX12_between_0 : decode cX12_between 0 = .ok (.aload_n 0, 1) := by decide +kernel
theorem dX12_between_1 : decode cX12_between 1 = .ok (.iload_n 1, 1) := by decide +kernel
theorem dX12_between_2 : decode cX12_between 2 = .ok (.invokevirtual 116, 3) := by decide +kernel
theorem dX12_between_5 : decode cX12_between 5 = .ok (.ifCond .eq 46, 3) := by decide +kernel
theorem dX12_between_8 : decode cX12_between 8 = .ok (.aload_n 0, 1) := by decide +kernel
theorem dX12_between_9 : decode cX12_between 9 = .ok (.iload_n 2, 1) := by decide +kernel
theorem dX12_between_10 : decode cX12_between 10 = .ok (.invokevirtual 116, 3) := by decide +kernel
theorem dX12_between_13 : decode cX12_between 13 = .ok (.ifCond .eq 38, 3) := by decide +kernel
theorem dX12_between_16 : decode cX12_between 16 = .ok (.iload_n 1, 1) := by decide +kernel
theorem dX12_between_17 : decode cX12_between 17 = .ok (.iload_n 2, 1) := by decide +kernel
theorem dX12_between_18 : decode cX12_between 18 = .ok (.if_icmp .eq 33, 3) := by decide +kernel
theorem dX12_between_21 : decode cX12_between 21 = .ok (.iload_n 3, 1) := by decide +kernel
theorem dX12_between_22 : decode cX12_between 22 = .ok (.iconst 1, 1) := by decide +kernel
theorem dX12_between_23 : decode cX12_between 23 = .ok (.bipush 9, 2) := by decide +kernel
theorem dX12_between_25 : decode cX12_between 25 = .ok (.invokestatic 109, 3) := by decide +kernel
theorem dX12_between_28 : decode cX12_between 28 = .ok (.ifCond .eq 23, 3) := by decide +kernel
theorem dX12_between_31 : decode cX12_between 31 = .ok (.iload_n 3, 1) := by decide +kernel
theorem dX12_between_32 : decode cX12_between 32 = .ok (.aload_n 0, 1) := by decide +kernel
theorem dX12_between_33 : decode cX12_between 33 = .ok (.iload_n 1, 1) := by decide +kernel
theorem dX12_between_34 : decode cX12_between 34 = .ok (.invokevirtual 146, 3) := by decide +kernel
theorem dX12_between_37 : decode cX12_between 37 = .ok (.imul, 1) := by decide +kernel
theorem dX12_between_38 : decode cX12_between 38 = .ok (.aload_n 0, 1) := by decide +kernel
theorem dX12_between_39 : decode cX12_between 39 = .ok (.iload_n 2, 1) := by decide +kernel
theorem dX12_between_40 : decode cX12_between 40 = .ok (.invokevirtual 146, 3) := by decide +kernel
theorem dX12_between_43 : decode cX12_between 43 = .ok (.iadd, 1) := by decide +kernel
theorem dX12_between_44 : decode cX12_between 44 = .ok (.iload_n 3, 1) := by decide +kernel
theorem dX12_between_45 : decode cX12_between 45 = .ok (.iconst 1, 1) := by decide +kernel
theorem dX12_between_46 : decode cX12_between 46 = .ok (.iadd, 1) := by decide +kernel
theorem dX12_between_47 : decode cX12_between 47 = .ok (.idiv, 1) := by decide +kernel
theorem dX12_between_48 : decode cX12_between 48 = .ok (.goto 5, 3) := by decide +kernel
theorem dX12_between_51 : decode cX12_between 51 = .ok (.bipush (-2), 2) := by decide +kernel
theorem dX12_between_53 : decode cX12_between 53 = .ok (.ireturn, 1) := by decide +kernel
theorem dX12_range_0 : decode cX12_range 0 = .ok (.iload_n 1, 1) := by decide +kernel
theorem dX12_range_1 : decode cX12_range 1 = .ok (.ifCond .lt 12, 3) := by decide +kernel
theorem dX12_range_4 : decode cX12_range 4 = .ok (.iload_n 1, 1) := by decide +kernel
theorem dX12_range_5 : decode cX12_range 5 = .ok (.aload_n 0, 1) := by decide +kernel
theorem dX12_range_6 : decode cX12_range 6 = .ok (.getfield 106, 3) := by decide +kernel
theorem dX12_range_9 : decode cX12_range 9 = .ok (.ishr, 1) := by decide +kernel
theorem dX12_range_10 : decode cX12_range 10 = .ok (.ifCond .eq 6, 3) := by decide +kernel
theorem dX12_range_13 : decode cX12_range 13 = .ok (.bipush (-2), 2) := by decide +kernel
theorem dX12_range_15 : decode cX12_range 15 = .ok (.ireturn, 1) := by decide +kernel
theorem dX12_range_16 : decode cX12_range 16 = .ok (.iconst (-1), 1) := by decide +kernel
theorem dX12_range_17 : decode cX12_range 17 = .ok (.istore_n 2, 1) := by decide +kernel
theorem dX12_range_18 : decode cX12_range 18 = .ok (.iconst 0, 1) := by decide +kernel
theorem dX12_range_19 : decode cX12_range 19 = .ok (.istore_n 3, 1) := by decide +kernel
theorem dX12_range_20 : decode cX12_range 20 = .ok (.iload_n 3, 1) := by decide +kernel
theorem dX12_range_21 : decode cX12_range 21 = .ok (.aload_n 0, 1) := by decide +kernel
theorem dX12_range_22 : decode cX12_range 22 = .ok (.getfield 106, 3) := by decide +kernel
theorem dX12_range_25 : decode cX12_range 25 = .ok (.if_icmp .ge 67, 3) := by decide +kernel
theorem dX12_range_28 : decode cX12_range 28 = .ok (.iload_n 3, 1) := by decide +kernel
theorem dX12_range_29 : decode cX12_range 29 = .ok (.iconst 1, 1) := by decide +kernel
theorem dX12_range_30 : decode cX12_range 30 = .ok (.iadd, 1) := by decide +kernel
theorem dX12_range_31 : decode cX12_range 31 = .ok (.istore 4, 2) := by decide +kernel
theorem dX12_range_33 : decode cX12_range 33 = .ok (.iload 4, 2) := by decide +kernel
theorem dX12_range_35 : decode cX12_range 35 = .ok (.aload_n 0, 1) := by decide +kernel
theorem dX12_range_36 : decode cX12_range 36 = .ok (.getfield 106, 3) := by decide +kernel
theorem dX12_range_39 : decode cX12_range 39 = .ok (.if_icmp .ge 47, 3) := by decide +kernel
theorem dX12_range_42 : decode cX12_range 42 = .ok (.iload_n 1, 1) := by decide +kernel
theorem dX12_range_43 : decode cX12_range 43 = .ok (.iload_n 3, 1) := by decide +kernel
theorem dX12_range_44 : decode cX12_range 44 = .ok (.ishr, 1) := by decide +kernel
theorem dX12_range_45 : decode cX12_range 45 = .ok (.iconst 1, 1) := by decide +kernel
theorem dX12_range_46 : decode cX12_range 46 = .ok (.iand, 1) := by decide +kernel
theorem dX12_range_47 : decode cX12_range 47 = .ok (.ifCond .eq 33, 3) := by decide +kernel
theorem dX12_range_50 : decode cX12_range 50 = .ok (.iload_n 1, 1) := by decide +kernel
theorem dX12_range_51 : decode cX12_range 51 = .ok (.iload 4, 2) := by decide +kernel
theorem dX12_range_53 : decode cX12_range 53 = .ok (.ishr, 1) := by decide +kernel
theorem dX12_range_54 : decode cX12_range 54 = .ok (.iconst 1, 1) := by decide +kernel
theorem dX12_range_55 : decode cX12_range 55 = .ok (.iand, 1) := by decide +kernel
theorem dX12_range_56 : decode cX12_range 56 = .ok (.ifCond .ne 6, 3) := by decide +kernel
theorem dX12_range_59 : decode cX12_range 59 = .ok (.goto 21, 3) := by decide +kernel
theorem dX12_range_62 : decode cX12_range 62 = .ok (.aload_n 0, 1) := by decide +kernel
theorem dX12_range_63 : decode cX12_range 63 = .ok (.iload_n 3, 1) := by decide +kernel
theorem dX12_range_64 : decode cX12_range 64 = .ok (.iload 4, 2) := by decide +kernel
theorem dX12_range_66 : decode cX12_range 66 = .ok (.invokevirtual 249, 3) := by decide +kernel
theorem dX12_range_69 : decode cX12_range 69 = .ok (.istore 5, 2) := by decide +kernel
theorem dX12_range_71 : decode cX12_range 71 = .ok (.iload 5, 2) := by decide +kernel
theorem dX12_range_73 : decode cX12_range 73 = .ok (.iload_n 2, 1) := by decide +kernel
theorem dX12_range_74 : decode cX12_range 74 = .ok (.if_icmp .le 6, 3) := by decide +kernel
theorem dX12_range_77 : decode cX12_range 77 = .ok (.iload 5, 2) := by decide +kernel
theorem dX12_range_79 : decode cX12_range 79 = .ok (.istore_n 2, 1) := by decide +kernel
theorem dX12_range_80 : decode cX12_range 80 = .ok (.iinc 4 1, 3) := by decide +kernel
theorem dX12_range_83 : decode cX12_range 83 = .ok (.goto (-50), 3) := by decide +kernel
theorem dX12_range_86 : decode cX12_range 86 = .ok (.iinc 3 1, 3) := by decide +kernel
theorem dX12_range_89 : decode cX12_range 89 = .ok (.goto (-69), 3) := by decide +kernel
theorem dX12_range_92 : decode cX12_range 92 = .ok (.iload_n 2, 1) := by decide +kernel
theorem dX12_range_93 : decode cX12_range 93 = .ok (.ireturn, 1) := by decide +kernel
theorem dX12_findDigits_0 : decode cX12_findDigits 0 = .ok (.iload_n 1, 1) := by decide +kernel
theorem dX12_findDigits_1 : decode cX12_findDigits 1 = .ok (.istore_n 2, 1) := by decide +kernel
theorem dX12_findDigits_2 : decode cX12_findDigits 2 = .ok (.iconst 4, 1) := by decide +kernel
theorem dX12_findDigits_3 : decode cX12_findDigits 3 = .ok (.istore_n 3, 1) := by decide +kernel
theorem dX12_findDigits_4 : decode cX12_findDigits 4 = .ok (.iload_n 3, 1) := by decide +kernel
theorem dX12_findDigits_5 : decode cX12_findDigits 5 = .ok (.ifCond .lt 24, 3) := by decide +kernel
theorem dX12_findDigits_8 : decode cX12_findDigits 8 = .ok (.aload_n 0, 1) := by decide +kernel
theorem dX12_findDigits_9 : decode cX12_findDigits 9 = .ok (.getfield 67, 3) := by decide +kernel
theorem dX12_findDigits_12 : decode cX12_findDigits 12 = .ok (.iload_n 3, 1) := by decide +kernel
theorem dX12_findDigits_13 : decode cX12_findDigits 13 = .ok (.iload_n 2, 1) := by decide +kernel
theorem dX12_findDigits_14 : decode cX12_findDigits 14 = .ok (.bipush 6, 2) := by decide +kernel
theorem dX12_findDigits_16 : decode cX12_findDigits 16 = .ok (.irem, 1) := by decide +kernel
theorem dX12_findDigits_17 : decode cX12_findDigits 17 = .ok (.iastore, 1) := by decide +kernel
theorem dX12_findDigits_18 : decode cX12_findDigits 18 = .ok (.iload_n 2, 1) := by decide +kernel
theorem dX12_findDigits_19 : decode cX12_findDigits 19 = .ok (.bipush 6, 2) := by decide +kernel
theorem dX12_findDigits_21 : decode cX12_findDigits 21 = .ok (.idiv, 1) := by decide +kernel
theorem dX12_findDigits_22 : decode cX12_findDigits 22 = .ok (.istore_n 2, 1) := by decide +kernel
theorem dX12_findDigits_23 : decode cX12_findDigits 23 = .ok (.iinc 3 (-1), 3) := by decide +kernel
theorem dX12_findDigits_26 : decode cX12_findDigits 26 = .ok (.goto (-22), 3) := by decide +kernel
theorem dX12_findDigits_29 : decode cX12_findDigits 29 = .ok (.return_, 1) := by decide +kernel
theorem dX12_judged_0 : decode cX12_judged 0 = .ok (.aload_n 0, 1) := by decide +kernel
theorem dX12_judged_1 : decode cX12_judged 1 = .ok (.iload_n 2, 1) := by decide +kernel
theorem dX12_judged_2 : decode cX12_judged 2 = .ok (.invokevirtual 256, 3) := by decide +kernel
theorem dX12_judged_5 : decode cX12_judged 5 = .ok (.iconst 0, 1) := by decide +kernel
theorem dX12_judged_6 : decode cX12_judged 6 = .ok (.istore_n 3, 1) := by decide +kernel
theorem dX12_judged_7 : decode cX12_judged 7 = .ok (.iload_n 3, 1) := by decide +kernel
theorem dX12_judged_8 : decode cX12_judged 8 = .ok (.iconst 5, 1) := by decide +kernel
theorem dX12_judged_9 : decode cX12_judged 9 = .ok (.if_icmp .ge 27, 3) := by decide +kernel
theorem dX12_judged_12 : decode cX12_judged 12 = .ok (.aload_n 0, 1) := by decide +kernel
theorem dX12_judged_13 : decode cX12_judged 13 = .ok (.getfield 67, 3) := by decide +kernel
theorem dX12_judged_16 : decode cX12_judged 16 = .ok (.iload_n 3, 1) := by decide +kernel
theorem dX12_judged_17 : decode cX12_judged 17 = .ok (.iaload, 1) := by decide +kernel
theorem dX12_judged_18 : decode cX12_judged 18 = .ok (.aload_n 0, 1) := by decide +kernel
theorem dX12_judged_19 : decode cX12_judged 19 = .ok (.getfield 106, 3) := by decide +kernel
theorem dX12_judged_22 : decode cX12_judged 22 = .ok (.if_icmp .lt 8, 3) := by decide +kernel
theorem dX12_judged_25 : decode cX12_judged 25 = .ok (.bipush 10, 2) := by decide +kernel
theorem dX12_judged_27 : decode cX12_judged 27 = .ok (.iload_n 3, 1) := by decide +kernel
theorem dX12_judged_28 : decode cX12_judged 28 = .ok (.iadd, 1) := by decide +kernel
theorem dX12_judged_29 : decode cX12_judged 29 = .ok (.ireturn, 1) := by decide +kernel
theorem dX12_judged_30 : decode cX12_judged 30 = .ok (.iinc 3 1, 3) := by decide +kernel
theorem dX12_judged_33 : decode cX12_judged 33 = .ok (.goto (-26), 3) := by decide +kernel
theorem dX12_judged_36 : decode cX12_judged 36 = .ok (.iconst 0, 1) := by decide +kernel
theorem dX12_judged_37 : decode cX12_judged 37 = .ok (.istore_n 3, 1) := by decide +kernel
theorem dX12_judged_38 : decode cX12_judged 38 = .ok (.iload_n 3, 1) := by decide +kernel
theorem dX12_judged_39 : decode cX12_judged 39 = .ok (.bipush 6, 2) := by decide +kernel
theorem dX12_judged_41 : decode cX12_judged 41 = .ok (.if_icmp .ge 16, 3) := by decide +kernel
theorem dX12_judged_44 : decode cX12_judged 44 = .ok (.aload_n 0, 1) := by decide +kernel
theorem dX12_judged_45 : decode cX12_judged 45 = .ok (.getfield 70, 3) := by decide +kernel
theorem dX12_judged_48 : decode cX12_judged 48 = .ok (.iload_n 3, 1) := by decide +kernel
theorem dX12_judged_49 : decode cX12_judged 49 = .ok (.iconst 0, 1) := by decide +kernel
theorem dX12_judged_50 : decode cX12_judged 50 = .ok (.iastore, 1) := by decide +kernel
theorem dX12_judged_51 : decode cX12_judged 51 = .ok (.iinc 3 1, 3) := by decide +kernel
theorem dX12_judged_54 : decode cX12_judged 54 = .ok (.goto (-16), 3) := by decide +kernel
theorem dX12_judged_57 : decode cX12_judged 57 = .ok (.iconst 0, 1) := by decide +kernel
theorem dX12_judged_58 : decode cX12_judged 58 = .ok (.istore_n 3, 1) := by decide +kernel
theorem dX12_judged_59 : decode cX12_judged 59 = .ok (.iload_n 3, 1) := by decide +kernel
theorem dX12_judged_60 : decode cX12_judged 60 = .ok (.iconst 5, 1) := by decide +kernel
theorem dX12_judged_61 : decode cX12_judged 61 = .ok (.if_icmp .ge 29, 3) := by decide +kernel
theorem dX12_judged_64 : decode cX12_judged 64 = .ok (.aload_n 0, 1) := by decide +kernel
theorem dX12_judged_65 : decode cX12_judged 65 = .ok (.getfield 70, 3) := by decide +kernel
theorem dX12_judged_68 : decode cX12_judged 68 = .ok (.aload_n 0, 1) := by decide +kernel
theorem dX12_judged_69 : decode cX12_judged 69 = .ok (.getfield 67, 3) := by decide +kernel
theorem dX12_judged_72 : decode cX12_judged 72 = .ok (.iload_n 3, 1) := by decide +kernel
theorem dX12_judged_73 : decode cX12_judged 73 = .ok (.iaload, 1) := by decide +kernel
theorem dX12_judged_74 : decode cX12_judged 74 = .ok (.dup2, 1) := by decide +kernel
theorem dX12_judged_75 : decode cX12_judged 75 = .ok (.iaload, 1) := by decide +kernel
theorem dX12_judged_76 : decode cX12_judged 76 = .ok (.aload_n 0, 1) := by decide +kernel
theorem dX12_judged_77 : decode cX12_judged 77 = .ok (.iload_n 1, 1) := by decide +kernel
theorem dX12_judged_78 : decode cX12_judged 78 = .ok (.iload_n 3, 1) := by decide +kernel
theorem dX12_judged_79 : decode cX12_judged 79 = .ok (.invokevirtual 124, 3) := by decide +kernel
theorem dX12_judged_82 : decode cX12_judged 82 = .ok (.iadd, 1) := by decide +kernel
theorem dX12_judged_83 : decode cX12_judged 83 = .ok (.iastore, 1) := by decide +kernel
theorem dX12_judged_84 : decode cX12_judged 84 = .ok (.iinc 3 1, 3) := by decide +kernel
theorem dX12_judged_87 : decode cX12_judged 87 = .ok (.goto (-28), 3) := by decide +kernel
theorem dX12_judged_90 : decode cX12_judged 90 = .ok (.iconst 0, 1) := by decide +kernel
theorem dX12_judged_91 : decode cX12_judged 91 = .ok (.istore_n 3, 1) := by decide +kernel
theorem dX12_judged_92 : decode cX12_judged 92 = .ok (.iload_n 3, 1) := by decide +kernel
theorem dX12_judged_93 : decode cX12_judged 93 = .ok (.aload_n 0, 1) := by decide +kernel
theorem dX12_judged_94 : decode cX12_judged 94 = .ok (.getfield 106, 3) := by decide +kernel
theorem dX12_judged_97 : decode cX12_judged 97 = .ok (.if_icmp .ge 29, 3) := by decide +kernel
theorem dX12_judged_100 : decode cX12_judged 100 = .ok (.aload_n 0, 1) := by decide +kernel
theorem dX12_judged_101 : decode cX12_judged 101 = .ok (.getfield 70, 3) := by decide +kernel
theorem dX12_judged_104 : decode cX12_judged 104 = .ok (.iload_n 3, 1) := by decide +kernel
theorem dX12_judged_105 : decode cX12_judged 105 = .ok (.iaload, 1) := by decide +kernel
theorem dX12_judged_106 : decode cX12_judged 106 = .ok (.aload_n 0, 1) := by decide +kernel
theorem dX12_judged_107 : decode cX12_judged 107 = .ok (.getfield 7, 3) := by decide +kernel
theorem dX12_judged_110 : decode cX12_judged 110 = .ok (.iload_n 3, 1) := by decide +kernel
theorem dX12_judged_111 : decode cX12_judged 111 = .ok (.iaload, 1) := by decide +kernel
theorem dX12_judged_112 : decode cX12_judged 112 = .ok (.if_icmp .le 8, 3) := by decide +kernel
theorem dX12_judged_115 : decode cX12_judged 115 = .ok (.bipush 20, 2) := by decide +kernel
theorem dX12_judged_117 : decode cX12_judged 117 = .ok (.iload_n 3, 1) := by decide +kernel
theorem dX12_judged_118 : decode cX12_judged 118 = .ok (.iadd, 1) := by decide +kernel
theorem dX12_judged_119 : decode cX12_judged 119 = .ok (.ireturn, 1) := by decide +kernel
theorem dX12_judged_120 : decode cX12_judged 120 = .ok (.iinc 3 1, 3) := by decide +kernel
theorem dX12_judged_123 : decode cX12_judged 123 = .ok (.goto (-31), 3) := by decide +kernel
theorem dX12_judged_126 : decode cX12_judged 126 = .ok (.iconst 0, 1) := by decide +kernel
theorem dX12_judged_127 : decode cX12_judged 127 = .ok (.istore_n 3, 1) := by decide +kernel
theorem dX12_judged_128 : decode cX12_judged 128 = .ok (.iload_n 3, 1) := by decide +kernel
theorem dX12_judged_129 : decode cX12_judged 129 = .ok (.bipush 6, 2) := by decide +kernel
theorem dX12_judged_131 : decode cX12_judged 131 = .ok (.if_icmp .ge 41, 3) := by decide +kernel
theorem dX12_judged_134 : decode cX12_judged 134 = .ok (.aload_n 0, 1) := by decide +kernel
theorem dX12_judged_135 : decode cX12_judged 135 = .ok (.iload_n 1, 1) := by decide +kernel
theorem dX12_judged_136 : decode cX12_judged 136 = .ok (.iload_n 3, 1) := by decide +kernel
theorem dX12_judged_137 : decode cX12_judged 137 = .ok (.aload_n 0, 1) := by decide +kernel
theorem dX12_judged_138 : decode cX12_judged 138 = .ok (.getfield 67, 3) := by decide +kernel
theorem dX12_judged_141 : decode cX12_judged 141 = .ok (.iload_n 3, 1) := by decide +kernel
theorem dX12_judged_142 : decode cX12_judged 142 = .ok (.invokestatic 236, 3) := by decide +kernel
theorem dX12_judged_145 : decode cX12_judged 145 = .ok (.iaload, 1) := by decide +kernel
theorem dX12_judged_146 : decode cX12_judged 146 = .ok (.aload_n 0, 1) := by decide +kernel
theorem dX12_judged_147 : decode cX12_judged 147 = .ok (.getfield 67, 3) := by decide +kernel
theorem dX12_judged_150 : decode cX12_judged 150 = .ok (.iload_n 3, 1) := by decide +kernel
theorem dX12_judged_151 : decode cX12_judged 151 = .ok (.invokestatic 239, 3) := by decide +kernel
theorem dX12_judged_154 : decode cX12_judged 154 = .ok (.iaload, 1) := by decide +kernel
theorem dX12_judged_155 : decode cX12_judged 155 = .ok (.invokevirtual 252, 3) := by decide +kernel
theorem dX12_judged_158 : decode cX12_judged 158 = .ok (.ifCond .ne 8, 3) := by decide +kernel
theorem dX12_judged_161 : decode cX12_judged 161 = .ok (.bipush 40, 2) := by decide +kernel
theorem dX12_judged_163 : decode cX12_judged 163 = .ok (.iload_n 3, 1) := by decide +kernel
theorem dX12_judged_164 : decode cX12_judged 164 = .ok (.iadd, 1) := by decide +kernel
theorem dX12_judged_165 : decode cX12_judged 165 = .ok (.ireturn, 1) := by decide +kernel
theorem dX12_judged_166 : decode cX12_judged 166 = .ok (.iinc 3 1, 3) := by decide +kernel
theorem dX12_judged_169 : decode cX12_judged 169 = .ok (.goto (-41), 3) := by decide +kernel
theorem dX12_judged_172 : decode cX12_judged 172 = .ok (.iconst (-1), 1) := by decide +kernel
theorem dX12_judged_173 : decode cX12_judged 173 = .ok (.ireturn, 1) := by decide +kernel
theorem dX12_judge_0 : decode cX12_judge 0 = .ok (.aload_n 0, 1) := by decide +kernel
theorem dX12_judge_1 : decode cX12_judge 1 = .ok (.iload_n 1, 1) := by decide +kernel
theorem dX12_judge_2 : decode cX12_judge 2 = .ok (.invokevirtual 127, 3) := by decide +kernel
theorem dX12_judge_5 : decode cX12_judge 5 = .ok (.ifCond .eq 23, 3) := by decide +kernel
theorem dX12_judge_8 : decode cX12_judge 8 = .ok (.iload_n 2, 1) := by decide +kernel
theorem dX12_judge_9 : decode cX12_judge 9 = .ok (.iconst 0, 1) := by decide +kernel
theorem dX12_judge_10 : decode cX12_judge 10 = .ok (.sipush 7775, 3) := by decide +kernel
theorem dX12_judge_13 : decode cX12_judge 13 = .ok (.invokestatic 109, 3) := by decide +kernel
theorem dX12_judge_16 : decode cX12_judge 16 = .ok (.ifCond .eq 12, 3) := by decide +kernel
theorem dX12_judge_19 : decode cX12_judge 19 = .ok (.aload_n 0, 1) := by decide +kernel
theorem dX12_judge_20 : decode cX12_judge 20 = .ok (.iload_n 1, 1) := by decide +kernel
theorem dX12_judge_21 : decode cX12_judge 21 = .ok (.iload_n 2, 1) := by decide +kernel
theorem dX12_judge_22 : decode cX12_judge 22 = .ok (.invokevirtual 259, 3) := by decide +kernel
theorem dX12_judge_25 : decode cX12_judge 25 = .ok (.goto 5, 3) := by decide +kernel
theorem dX12_judge_28 : decode cX12_judge 28 = .ok (.bipush (-2), 2) := by decide +kernel
theorem dX12_judge_30 : decode cX12_judge 30 = .ok (.ireturn, 1) := by decide +kernel
theorem dX12_findMay_0 : decode cX12_findMay 0 = .ok (.iconst 0, 1) := by decide +kernel
theorem dX12_findMay_1 : decode cX12_findMay 1 = .ok (.istore_n 2, 1) := by decide +kernel
theorem dX12_findMay_2 : decode cX12_findMay 2 = .ok (.iload_n 2, 1) := by decide +kernel
theorem dX12_findMay_3 : decode cX12_findMay 3 = .ok (.bipush 6, 2) := by decide +kernel
theorem dX12_findMay_5 : decode cX12_findMay 5 = .ok (.if_icmp .ge 69, 3) := by decide +kernel
theorem dX12_findMay_8 : decode cX12_findMay 8 = .ok (.iconst 0, 1) := by decide +kernel
theorem dX12_findMay_9 : decode cX12_findMay 9 = .ok (.istore_n 3, 1) := by decide +kernel
theorem dX12_findMay_10 : decode cX12_findMay 10 = .ok (.iload_n 3, 1) := by decide +kernel
theorem dX12_findMay_11 : decode cX12_findMay 11 = .ok (.aload_n 0, 1) := by decide +kernel
theorem dX12_findMay_12 : decode cX12_findMay 12 = .ok (.getfield 106, 3) := by decide +kernel
theorem dX12_findMay_15 : decode cX12_findMay 15 = .ok (.if_icmp .ge 53, 3) := by decide +kernel
theorem dX12_findMay_18 : decode cX12_findMay 18 = .ok (.iconst 0, 1) := by decide +kernel
theorem dX12_findMay_19 : decode cX12_findMay 19 = .ok (.istore 4, 2) := by decide +kernel
theorem dX12_findMay_21 : decode cX12_findMay 21 = .ok (.iload 4, 2) := by decide +kernel
theorem dX12_findMay_23 : decode cX12_findMay 23 = .ok (.aload_n 0, 1) := by decide +kernel
theorem dX12_findMay_24 : decode cX12_findMay 24 = .ok (.getfield 106, 3) := by decide +kernel
theorem dX12_findMay_27 : decode cX12_findMay 27 = .ok (.if_icmp .ge 35, 3) := by decide +kernel
theorem dX12_findMay_30 : decode cX12_findMay 30 = .ok (.aload_n 0, 1) := by decide +kernel
theorem dX12_findMay_31 : decode cX12_findMay 31 = .ok (.getfield 73, 3) := by decide +kernel
theorem dX12_findMay_34 : decode cX12_findMay 34 = .ok (.bipush 36, 2) := by decide +kernel
theorem dX12_findMay_36 : decode cX12_findMay 36 = .ok (.iload_n 2, 1) := by decide +kernel
theorem dX12_findMay_37 : decode cX12_findMay 37 = .ok (.imul, 1) := by decide +kernel
theorem dX12_findMay_38 : decode cX12_findMay 38 = .ok (.bipush 6, 2) := by decide +kernel
theorem dX12_findMay_40 : decode cX12_findMay 40 = .ok (.iload_n 3, 1) := by decide +kernel
theorem dX12_findMay_41 : decode cX12_findMay 41 = .ok (.imul, 1) := by decide +kernel
theorem dX12_findMay_42 : decode cX12_findMay 42 = .ok (.iadd, 1) := by decide +kernel
theorem dX12_findMay_43 : decode cX12_findMay 43 = .ok (.iload 4, 2) := by decide +kernel
theorem dX12_findMay_45 : decode cX12_findMay 45 = .ok (.iadd, 1) := by decide +kernel
theorem dX12_findMay_46 : decode cX12_findMay 46 = .ok (.aload_n 0, 1) := by decide +kernel
theorem dX12_findMay_47 : decode cX12_findMay 47 = .ok (.iload_n 1, 1) := by decide +kernel
theorem dX12_findMay_48 : decode cX12_findMay 48 = .ok (.iload_n 2, 1) := by decide +kernel
theorem dX12_findMay_49 : decode cX12_findMay 49 = .ok (.iload_n 3, 1) := by decide +kernel
theorem dX12_findMay_50 : decode cX12_findMay 50 = .ok (.iload 4, 2) := by decide +kernel
theorem dX12_findMay_52 : decode cX12_findMay 52 = .ok (.invokevirtual 252, 3) := by decide +kernel
theorem dX12_findMay_55 : decode cX12_findMay 55 = .ok (.bastore, 1) := by decide +kernel
theorem dX12_findMay_56 : decode cX12_findMay 56 = .ok (.iinc 4 1, 3) := by decide +kernel
theorem dX12_findMay_59 : decode cX12_findMay 59 = .ok (.goto (-38), 3) := by decide +kernel
theorem dX12_findMay_62 : decode cX12_findMay 62 = .ok (.iinc 3 1, 3) := by decide +kernel
theorem dX12_findMay_65 : decode cX12_findMay 65 = .ok (.goto (-55), 3) := by decide +kernel
theorem dX12_findMay_68 : decode cX12_findMay 68 = .ok (.iinc 2 1, 3) := by decide +kernel
theorem dX12_findMay_71 : decode cX12_findMay 71 = .ok (.goto (-69), 3) := by decide +kernel
theorem dX12_findMay_74 : decode cX12_findMay 74 = .ok (.return_, 1) := by decide +kernel
theorem dX12_isGood_0 : decode cX12_isGood 0 = .ok (.aload_n 0, 1) := by decide +kernel
theorem dX12_isGood_1 : decode cX12_isGood 1 = .ok (.iload_n 2, 1) := by decide +kernel
theorem dX12_isGood_2 : decode cX12_isGood 2 = .ok (.invokevirtual 256, 3) := by decide +kernel
theorem dX12_isGood_5 : decode cX12_isGood 5 = .ok (.iconst 0, 1) := by decide +kernel
theorem dX12_isGood_6 : decode cX12_isGood 6 = .ok (.istore_n 3, 1) := by decide +kernel
theorem dX12_isGood_7 : decode cX12_isGood 7 = .ok (.iload_n 3, 1) := by decide +kernel
theorem dX12_isGood_8 : decode cX12_isGood 8 = .ok (.iconst 5, 1) := by decide +kernel
theorem dX12_isGood_9 : decode cX12_isGood 9 = .ok (.if_icmp .ge 24, 3) := by decide +kernel
theorem dX12_isGood_12 : decode cX12_isGood 12 = .ok (.aload_n 0, 1) := by decide +kernel
theorem dX12_isGood_13 : decode cX12_isGood 13 = .ok (.getfield 67, 3) := by decide +kernel
theorem dX12_isGood_16 : decode cX12_isGood 16 = .ok (.iload_n 3, 1) := by decide +kernel
theorem dX12_isGood_17 : decode cX12_isGood 17 = .ok (.iaload, 1) := by decide +kernel
theorem dX12_isGood_18 : decode cX12_isGood 18 = .ok (.aload_n 0, 1) := by decide +kernel
theorem dX12_isGood_19 : decode cX12_isGood 19 = .ok (.getfield 106, 3) := by decide +kernel
theorem dX12_isGood_22 : decode cX12_isGood 22 = .ok (.if_icmp .lt 5, 3) := by decide +kernel
theorem dX12_isGood_25 : decode cX12_isGood 25 = .ok (.iconst 0, 1) := by decide +kernel
theorem dX12_isGood_26 : decode cX12_isGood 26 = .ok (.ireturn, 1) := by decide +kernel
theorem dX12_isGood_27 : decode cX12_isGood 27 = .ok (.iinc 3 1, 3) := by decide +kernel
theorem dX12_isGood_30 : decode cX12_isGood 30 = .ok (.goto (-23), 3) := by decide +kernel
theorem dX12_isGood_33 : decode cX12_isGood 33 = .ok (.iconst 0, 1) := by decide +kernel
theorem dX12_isGood_34 : decode cX12_isGood 34 = .ok (.istore_n 3, 1) := by decide +kernel
theorem dX12_isGood_35 : decode cX12_isGood 35 = .ok (.iload_n 3, 1) := by decide +kernel
theorem dX12_isGood_36 : decode cX12_isGood 36 = .ok (.bipush 6, 2) := by decide +kernel
theorem dX12_isGood_38 : decode cX12_isGood 38 = .ok (.if_icmp .ge 46, 3) := by decide +kernel
theorem dX12_isGood_41 : decode cX12_isGood 41 = .ok (.aload_n 0, 1) := by decide +kernel
theorem dX12_isGood_42 : decode cX12_isGood 42 = .ok (.getfield 73, 3) := by decide +kernel
theorem dX12_isGood_45 : decode cX12_isGood 45 = .ok (.bipush 36, 2) := by decide +kernel
theorem dX12_isGood_47 : decode cX12_isGood 47 = .ok (.iload_n 3, 1) := by decide +kernel
theorem dX12_isGood_48 : decode cX12_isGood 48 = .ok (.imul, 1) := by decide +kernel
theorem dX12_isGood_49 : decode cX12_isGood 49 = .ok (.bipush 6, 2) := by decide +kernel
theorem dX12_isGood_51 : decode cX12_isGood 51 = .ok (.aload_n 0, 1) := by decide +kernel
theorem dX12_isGood_52 : decode cX12_isGood 52 = .ok (.getfield 67, 3) := by decide +kernel
theorem dX12_isGood_55 : decode cX12_isGood 55 = .ok (.iload_n 3, 1) := by decide +kernel
theorem dX12_isGood_56 : decode cX12_isGood 56 = .ok (.invokestatic 236, 3) := by decide +kernel
theorem dX12_isGood_59 : decode cX12_isGood 59 = .ok (.iaload, 1) := by decide +kernel
theorem dX12_isGood_60 : decode cX12_isGood 60 = .ok (.imul, 1) := by decide +kernel
theorem dX12_isGood_61 : decode cX12_isGood 61 = .ok (.iadd, 1) := by decide +kernel
theorem dX12_isGood_62 : decode cX12_isGood 62 = .ok (.aload_n 0, 1) := by decide +kernel
theorem dX12_isGood_63 : decode cX12_isGood 63 = .ok (.getfield 67, 3) := by decide +kernel
theorem dX12_isGood_66 : decode cX12_isGood 66 = .ok (.iload_n 3, 1) := by decide +kernel
theorem dX12_isGood_67 : decode cX12_isGood 67 = .ok (.invokestatic 239, 3) := by decide +kernel
theorem dX12_isGood_70 : decode cX12_isGood 70 = .ok (.iaload, 1) := by decide +kernel
theorem dX12_isGood_71 : decode cX12_isGood 71 = .ok (.iadd, 1) := by decide +kernel
theorem dX12_isGood_72 : decode cX12_isGood 72 = .ok (.baload, 1) := by decide +kernel
theorem dX12_isGood_73 : decode cX12_isGood 73 = .ok (.ifCond .ne 5, 3) := by decide +kernel
theorem dX12_isGood_76 : decode cX12_isGood 76 = .ok (.iconst 0, 1) := by decide +kernel
theorem dX12_isGood_77 : decode cX12_isGood 77 = .ok (.ireturn, 1) := by decide +kernel
theorem dX12_isGood_78 : decode cX12_isGood 78 = .ok (.iinc 3 1, 3) := by decide +kernel
theorem dX12_isGood_81 : decode cX12_isGood 81 = .ok (.goto (-46), 3) := by decide +kernel
theorem dX12_isGood_84 : decode cX12_isGood 84 = .ok (.iconst 0, 1) := by decide +kernel
theorem dX12_isGood_85 : decode cX12_isGood 85 = .ok (.istore_n 3, 1) := by decide +kernel
theorem dX12_isGood_86 : decode cX12_isGood 86 = .ok (.iload_n 3, 1) := by decide +kernel
theorem dX12_isGood_87 : decode cX12_isGood 87 = .ok (.bipush 6, 2) := by decide +kernel
theorem dX12_isGood_89 : decode cX12_isGood 89 = .ok (.if_icmp .ge 16, 3) := by decide +kernel
theorem dX12_isGood_92 : decode cX12_isGood 92 = .ok (.aload_n 0, 1) := by decide +kernel
theorem dX12_isGood_93 : decode cX12_isGood 93 = .ok (.getfield 70, 3) := by decide +kernel
theorem dX12_isGood_96 : decode cX12_isGood 96 = .ok (.iload_n 3, 1) := by decide +kernel
theorem dX12_isGood_97 : decode cX12_isGood 97 = .ok (.iconst 0, 1) := by decide +kernel
theorem dX12_isGood_98 : decode cX12_isGood 98 = .ok (.iastore, 1) := by decide +kernel
theorem dX12_isGood_99 : decode cX12_isGood 99 = .ok (.iinc 3 1, 3) := by decide +kernel
theorem dX12_isGood_102 : decode cX12_isGood 102 = .ok (.goto (-16), 3) := by decide +kernel
theorem dX12_isGood_105 : decode cX12_isGood 105 = .ok (.iconst 0, 1) := by decide +kernel
theorem dX12_isGood_106 : decode cX12_isGood 106 = .ok (.istore_n 3, 1) := by decide +kernel
theorem dX12_isGood_107 : decode cX12_isGood 107 = .ok (.iload_n 3, 1) := by decide +kernel
theorem dX12_isGood_108 : decode cX12_isGood 108 = .ok (.iconst 5, 1) := by decide +kernel
theorem dX12_isGood_109 : decode cX12_isGood 109 = .ok (.if_icmp .ge 29, 3) := by decide +kernel
theorem dX12_isGood_112 : decode cX12_isGood 112 = .ok (.aload_n 0, 1) := by decide +kernel
theorem dX12_isGood_113 : decode cX12_isGood 113 = .ok (.getfield 70, 3) := by decide +kernel
theorem dX12_isGood_116 : decode cX12_isGood 116 = .ok (.aload_n 0, 1) := by decide +kernel
theorem dX12_isGood_117 : decode cX12_isGood 117 = .ok (.getfield 67, 3) := by decide +kernel
theorem dX12_isGood_120 : decode cX12_isGood 120 = .ok (.iload_n 3, 1) := by decide +kernel
theorem dX12_isGood_121 : decode cX12_isGood 121 = .ok (.iaload, 1) := by decide +kernel
theorem dX12_isGood_122 : decode cX12_isGood 122 = .ok (.dup2, 1) := by decide +kernel
theorem dX12_isGood_123 : decode cX12_isGood 123 = .ok (.iaload, 1) := by decide +kernel
theorem dX12_isGood_124 : decode cX12_isGood 124 = .ok (.aload_n 0, 1) := by decide +kernel
theorem dX12_isGood_125 : decode cX12_isGood 125 = .ok (.iload_n 1, 1) := by decide +kernel
theorem dX12_isGood_126 : decode cX12_isGood 126 = .ok (.iload_n 3, 1) := by decide +kernel
theorem dX12_isGood_127 : decode cX12_isGood 127 = .ok (.invokevirtual 124, 3) := by decide +kernel
theorem dX12_isGood_130 : decode cX12_isGood 130 = .ok (.iadd, 1) := by decide +kernel
theorem dX12_isGood_131 : decode cX12_isGood 131 = .ok (.iastore, 1) := by decide +kernel
theorem dX12_isGood_132 : decode cX12_isGood 132 = .ok (.iinc 3 1, 3) := by decide +kernel
theorem dX12_isGood_135 : decode cX12_isGood 135 = .ok (.goto (-28), 3) := by decide +kernel
theorem dX12_isGood_138 : decode cX12_isGood 138 = .ok (.iconst 0, 1) := by decide +kernel
theorem dX12_isGood_139 : decode cX12_isGood 139 = .ok (.istore_n 3, 1) := by decide +kernel
theorem dX12_isGood_140 : decode cX12_isGood 140 = .ok (.iload_n 3, 1) := by decide +kernel
theorem dX12_isGood_141 : decode cX12_isGood 141 = .ok (.aload_n 0, 1) := by decide +kernel
theorem dX12_isGood_142 : decode cX12_isGood 142 = .ok (.getfield 106, 3) := by decide +kernel
theorem dX12_isGood_145 : decode cX12_isGood 145 = .ok (.if_icmp .ge 26, 3) := by decide +kernel
theorem dX12_isGood_148 : decode cX12_isGood 148 = .ok (.aload_n 0, 1) := by decide +kernel
theorem dX12_isGood_149 : decode cX12_isGood 149 = .ok (.getfield 70, 3) := by decide +kernel
theorem dX12_isGood_152 : decode cX12_isGood 152 = .ok (.iload_n 3, 1) := by decide +kernel
theorem dX12_isGood_153 : decode cX12_isGood 153 = .ok (.iaload, 1) := by decide +kernel
theorem dX12_isGood_154 : decode cX12_isGood 154 = .ok (.aload_n 0, 1) := by decide +kernel
theorem dX12_isGood_155 : decode cX12_isGood 155 = .ok (.getfield 7, 3) := by decide +kernel
theorem dX12_isGood_158 : decode cX12_isGood 158 = .ok (.iload_n 3, 1) := by decide +kernel
theorem dX12_isGood_159 : decode cX12_isGood 159 = .ok (.iaload, 1) := by decide +kernel
theorem dX12_isGood_160 : decode cX12_isGood 160 = .ok (.if_icmp .le 5, 3) := by decide +kernel
theorem dX12_isGood_163 : decode cX12_isGood 163 = .ok (.iconst 0, 1) := by decide +kernel
theorem dX12_isGood_164 : decode cX12_isGood 164 = .ok (.ireturn, 1) := by decide +kernel
theorem dX12_isGood_165 : decode cX12_isGood 165 = .ok (.iinc 3 1, 3) := by decide +kernel
theorem dX12_isGood_168 : decode cX12_isGood 168 = .ok (.goto (-28), 3) := by decide +kernel
theorem dX12_isGood_171 : decode cX12_isGood 171 = .ok (.iconst 1, 1) := by decide +kernel
theorem dX12_isGood_172 : decode cX12_isGood 172 = .ok (.ireturn, 1) := by decide +kernel
theorem dX12_findCan_0 : decode cX12_findCan 0 = .ok (.aload_n 0, 1) := by decide +kernel
theorem dX12_findCan_1 : decode cX12_findCan 1 = .ok (.iload_n 1, 1) := by decide +kernel
theorem dX12_findCan_2 : decode cX12_findCan 2 = .ok (.invokevirtual 262, 3) := by decide +kernel
theorem dX12_findCan_5 : decode cX12_findCan 5 = .ok (.aload_n 0, 1) := by decide +kernel
theorem dX12_findCan_6 : decode cX12_findCan 6 = .ok (.iconst (-1), 1) := by decide +kernel
theorem dX12_findCan_7 : decode cX12_findCan 7 = .ok (.putfield 265, 3) := by decide +kernel
theorem dX12_findCan_10 : decode cX12_findCan 10 = .ok (.aload_n 0, 1) := by decide +kernel
theorem dX12_findCan_11 : decode cX12_findCan 11 = .ok (.iconst 0, 1) := by decide +kernel
theorem dX12_findCan_12 : decode cX12_findCan 12 = .ok (.putfield 268, 3) := by decide +kernel
theorem dX12_findCan_15 : decode cX12_findCan 15 = .ok (.aload_n 0, 1) := by decide +kernel
theorem dX12_findCan_16 : decode cX12_findCan 16 = .ok (.iconst 0, 1) := by decide +kernel
theorem dX12_findCan_17 : decode cX12_findCan 17 = .ok (.putfield 271, 3) := by decide +kernel
theorem dX12_findCan_20 : decode cX12_findCan 20 = .ok (.iconst 0, 1) := by decide +kernel
theorem dX12_findCan_21 : decode cX12_findCan 21 = .ok (.istore_n 2, 1) := by decide +kernel
theorem dX12_findCan_22 : decode cX12_findCan 22 = .ok (.iload_n 2, 1) := by decide +kernel
theorem dX12_findCan_23 : decode cX12_findCan 23 = .ok (.sipush 7776, 3) := by decide +kernel
theorem dX12_findCan_26 : decode cX12_findCan 26 = .ok (.if_icmp .ge 130, 3) := by decide +kernel
theorem dX12_findCan_29 : decode cX12_findCan 29 = .ok (.aload_n 0, 1) := by decide +kernel
theorem dX12_findCan_30 : decode cX12_findCan 30 = .ok (.iload_n 1, 1) := by decide +kernel
theorem dX12_findCan_31 : decode cX12_findCan 31 = .ok (.iload_n 2, 1) := by decide +kernel
theorem dX12_findCan_32 : decode cX12_findCan 32 = .ok (.invokevirtual 274, 3) := by decide +kernel
theorem dX12_findCan_35 : decode cX12_findCan 35 = .ok (.ifCond .ne 6, 3) := by decide +kernel
theorem dX12_findCan_38 : decode cX12_findCan 38 = .ok (.goto 112, 3) := by decide +kernel
theorem dX12_findCan_41 : decode cX12_findCan 41 = .ok (.aload_n 0, 1) := by decide +kernel
theorem dX12_findCan_42 : decode cX12_findCan 42 = .ok (.dup, 1) := by decide +kernel
theorem dX12_findCan_43 : decode cX12_findCan 43 = .ok (.getfield 271, 3) := by decide +kernel
theorem dX12_findCan_46 : decode cX12_findCan 46 = .ok (.iconst 1, 1) := by decide +kernel
theorem dX12_findCan_47 : decode cX12_findCan 47 = .ok (.iadd, 1) := by decide +kernel
theorem dX12_findCan_48 : decode cX12_findCan 48 = .ok (.putfield 271, 3) := by decide +kernel
theorem dX12_findCan_51 : decode cX12_findCan 51 = .ok (.iconst 0, 1) := by decide +kernel
theorem dX12_findCan_52 : decode cX12_findCan 52 = .ok (.istore_n 3, 1) := by decide +kernel
theorem dX12_findCan_53 : decode cX12_findCan 53 = .ok (.iconst 0, 1) := by decide +kernel
theorem dX12_findCan_54 : decode cX12_findCan 54 = .ok (.istore 4, 2) := by decide +kernel
theorem dX12_findCan_56 : decode cX12_findCan 56 = .ok (.iload 4, 2) := by decide +kernel
theorem dX12_findCan_58 : decode cX12_findCan 58 = .ok (.aload_n 0, 1) := by decide +kernel
theorem dX12_findCan_59 : decode cX12_findCan 59 = .ok (.getfield 106, 3) := by decide +kernel
theorem dX12_findCan_62 : decode cX12_findCan 62 = .ok (.if_icmp .ge 60, 3) := by decide +kernel
theorem dX12_findCan_65 : decode cX12_findCan 65 = .ok (.aload_n 0, 1) := by decide +kernel
theorem dX12_findCan_66 : decode cX12_findCan 66 = .ok (.getfield 70, 3) := by decide +kernel
theorem dX12_findCan_69 : decode cX12_findCan 69 = .ok (.iload 4, 2) := by decide +kernel
theorem dX12_findCan_71 : decode cX12_findCan 71 = .ok (.iaload, 1) := by decide +kernel
theorem dX12_findCan_72 : decode cX12_findCan 72 = .ok (.ifCond .le 44, 3) := by decide +kernel
theorem dX12_findCan_75 : decode cX12_findCan 75 = .ok (.aload_n 0, 1) := by decide +kernel
theorem dX12_findCan_76 : decode cX12_findCan 76 = .ok (.getfield 7, 3) := by decide +kernel
theorem dX12_findCan_79 : decode cX12_findCan 79 = .ok (.iload 4, 2) := by decide +kernel
theorem dX12_findCan_81 : decode cX12_findCan 81 = .ok (.iaload, 1) := by decide +kernel
theorem dX12_findCan_82 : decode cX12_findCan 82 = .ok (.aload_n 0, 1) := by decide +kernel
theorem dX12_findCan_83 : decode cX12_findCan 83 = .ok (.getfield 70, 3) := by decide +kernel
theorem dX12_findCan_86 : decode cX12_findCan 86 = .ok (.iload 4, 2) := by decide +kernel
theorem dX12_findCan_88 : decode cX12_findCan 88 = .ok (.iaload, 1) := by decide +kernel
theorem dX12_findCan_89 : decode cX12_findCan 89 = .ok (.isub, 1) := by decide +kernel
theorem dX12_findCan_90 : decode cX12_findCan 90 = .ok (.iconst 1, 1) := by decide +kernel
theorem dX12_findCan_91 : decode cX12_findCan 91 = .ok (.iconst 2, 1) := by decide +kernel
theorem dX12_findCan_92 : decode cX12_findCan 92 = .ok (.invokestatic 109, 3) := by decide +kernel
theorem dX12_findCan_95 : decode cX12_findCan 95 = .ok (.ifCond .eq 21, 3) := by decide +kernel
theorem dX12_findCan_98 : decode cX12_findCan 98 = .ok (.iload_n 3, 1) := by decide +kernel
theorem dX12_findCan_99 : decode cX12_findCan 99 = .ok (.aload_n 0, 1) := by decide +kernel
theorem dX12_findCan_100 : decode cX12_findCan 100 = .ok (.getfield 7, 3) := by decide +kernel
theorem dX12_findCan_103 : decode cX12_findCan 103 = .ok (.iload 4, 2) := by decide +kernel
theorem dX12_findCan_105 : decode cX12_findCan 105 = .ok (.iaload, 1) := by decide +kernel
theorem dX12_findCan_106 : decode cX12_findCan 106 = .ok (.aload_n 0, 1) := by decide +kernel
theorem dX12_findCan_107 : decode cX12_findCan 107 = .ok (.getfield 70, 3) := by decide +kernel
theorem dX12_findCan_110 : decode cX12_findCan 110 = .ok (.iload 4, 2) := by decide +kernel
theorem dX12_findCan_112 : decode cX12_findCan 112 = .ok (.iaload, 1) := by decide +kernel
theorem dX12_findCan_113 : decode cX12_findCan 113 = .ok (.isub, 1) := by decide +kernel
theorem dX12_findCan_114 : decode cX12_findCan 114 = .ok (.iadd, 1) := by decide +kernel
theorem dX12_findCan_115 : decode cX12_findCan 115 = .ok (.istore_n 3, 1) := by decide +kernel
theorem dX12_findCan_116 : decode cX12_findCan 116 = .ok (.iinc 4 1, 3) := by decide +kernel
theorem dX12_findCan_119 : decode cX12_findCan 119 = .ok (.goto (-63), 3) := by decide +kernel
theorem dX12_findCan_122 : decode cX12_findCan 122 = .ok (.aload_n 0, 1) := by decide +kernel
theorem dX12_findCan_123 : decode cX12_findCan 123 = .ok (.getfield 265, 3) := by decide +kernel
theorem dX12_findCan_126 : decode cX12_findCan 126 = .ok (.ifCond .lt 14, 3) := by decide +kernel
theorem dX12_findCan_129 : decode cX12_findCan 129 = .ok (.iload_n 3, 1) := by decide +kernel
theorem dX12_findCan_130 : decode cX12_findCan 130 = .ok (.aload_n 0, 1) := by decide +kernel
theorem dX12_findCan_131 : decode cX12_findCan 131 = .ok (.getfield 268, 3) := by decide +kernel
theorem dX12_findCan_134 : decode cX12_findCan 134 = .ok (.if_icmp .lt 6, 3) := by decide +kernel
theorem dX12_findCan_137 : decode cX12_findCan 137 = .ok (.goto 13, 3) := by decide +kernel
theorem dX12_findCan_140 : decode cX12_findCan 140 = .ok (.aload_n 0, 1) := by decide +kernel
theorem dX12_findCan_141 : decode cX12_findCan 141 = .ok (.iload_n 2, 1) := by decide +kernel
theorem dX12_findCan_142 : decode cX12_findCan 142 = .ok (.putfield 265, 3) := by decide +kernel
theorem dX12_findCan_145 : decode cX12_findCan 145 = .ok (.aload_n 0, 1) := by decide +kernel
theorem dX12_findCan_146 : decode cX12_findCan 146 = .ok (.iload_n 3, 1) := by decide +kernel
theorem dX12_findCan_147 : decode cX12_findCan 147 = .ok (.putfield 268, 3) := by decide +kernel
theorem dX12_findCan_150 : decode cX12_findCan 150 = .ok (.iinc 2 1, 3) := by decide +kernel
theorem dX12_findCan_153 : decode cX12_findCan 153 = .ok (.goto (-131), 3) := by decide +kernel
theorem dX12_findCan_156 : decode cX12_findCan 156 = .ok (.return_, 1) := by decide +kernel
theorem dX12_can_0 : decode cX12_can 0 = .ok (.aload_n 0, 1) := by decide +kernel
theorem dX12_can_1 : decode cX12_can 1 = .ok (.iload_n 1, 1) := by decide +kernel
theorem dX12_can_2 : decode cX12_can 2 = .ok (.invokevirtual 127, 3) := by decide +kernel
theorem dX12_can_5 : decode cX12_can 5 = .ok (.ifCond .eq 12, 3) := by decide +kernel
theorem dX12_can_8 : decode cX12_can 8 = .ok (.iload_n 2, 1) := by decide +kernel
theorem dX12_can_9 : decode cX12_can 9 = .ok (.iconst 0, 1) := by decide +kernel
theorem dX12_can_10 : decode cX12_can 10 = .ok (.iconst 2, 1) := by decide +kernel
theorem dX12_can_11 : decode cX12_can 11 = .ok (.invokestatic 109, 3) := by decide +kernel
theorem dX12_can_14 : decode cX12_can 14 = .ok (.ifCond .ne 6, 3) := by decide +kernel
theorem dX12_can_17 : decode cX12_can 17 = .ok (.bipush (-2), 2) := by decide +kernel
theorem dX12_can_19 : decode cX12_can 19 = .ok (.ireturn, 1) := by decide +kernel
theorem dX12_can_20 : decode cX12_can 20 = .ok (.aload_n 0, 1) := by decide +kernel
theorem dX12_can_21 : decode cX12_can 21 = .ok (.iload_n 1, 1) := by decide +kernel
theorem dX12_can_22 : decode cX12_can 22 = .ok (.invokevirtual 278, 3) := by decide +kernel
theorem dX12_can_25 : decode cX12_can 25 = .ok (.iload_n 2, 1) := by decide +kernel
theorem dX12_can_26 : decode cX12_can 26 = .ok (.iconst 2, 1) := by decide +kernel
theorem dX12_can_27 : decode cX12_can 27 = .ok (.if_icmp .ne 10, 3) := by decide +kernel
theorem dX12_can_30 : decode cX12_can 30 = .ok (.aload_n 0, 1) := by decide +kernel
theorem dX12_can_31 : decode cX12_can 31 = .ok (.getfield 271, 3) := by decide +kernel
theorem dX12_can_34 : decode cX12_can 34 = .ok (.goto 29, 3) := by decide +kernel
theorem dX12_can_37 : decode cX12_can 37 = .ok (.aload_n 0, 1) := by decide +kernel
theorem dX12_can_38 : decode cX12_can 38 = .ok (.getfield 271, 3) := by decide +kernel
theorem dX12_can_41 : decode cX12_can 41 = .ok (.ifCond .ne 7, 3) := by decide +kernel
theorem dX12_can_44 : decode cX12_can 44 = .ok (.iconst (-1), 1) := by decide +kernel
theorem dX12_can_45 : decode cX12_can 45 = .ok (.goto 18, 3) := by decide +kernel
theorem dX12_can_48 : decode cX12_can 48 = .ok (.iload_n 2, 1) := by decide +kernel
theorem dX12_can_49 : decode cX12_can 49 = .ok (.ifCond .ne 10, 3) := by decide +kernel
theorem dX12_can_52 : decode cX12_can 52 = .ok (.aload_n 0, 1) := by decide +kernel
theorem dX12_can_53 : decode cX12_can 53 = .ok (.getfield 265, 3) := by decide +kernel
theorem dX12_can_56 : decode cX12_can 56 = .ok (.goto 7, 3) := by decide +kernel
theorem dX12_can_59 : decode cX12_can 59 = .ok (.aload_n 0, 1) := by decide +kernel
theorem dX12_can_60 : decode cX12_can 60 = .ok (.getfield 268, 3) := by decide +kernel
theorem dX12_can_63 : decode cX12_can 63 = .ok (.ireturn, 1) := by decide +kernel
theorem dX12_take_0 : decode cX12_take 0 = .ok (.aload_n 0, 1) := by decide +kernel
theorem dX12_take_1 : decode cX12_take 1 = .ok (.iload_n 2, 1) := by decide +kernel
theorem dX12_take_2 : decode cX12_take 2 = .ok (.invokevirtual 256, 3) := by decide +kernel
theorem dX12_take_5 : decode cX12_take 5 = .ok (.iconst 0, 1) := by decide +kernel
theorem dX12_take_6 : decode cX12_take 6 = .ok (.istore 4, 2) := by decide +kernel
theorem dX12_take_8 : decode cX12_take 8 = .ok (.iload 4, 2) := by decide +kernel
theorem dX12_take_10 : decode cX12_take 10 = .ok (.iconst 5, 1) := by decide +kernel
theorem dX12_take_11 : decode cX12_take 11 = .ok (.if_icmp .ge 33, 3) := by decide +kernel
theorem dX12_take_14 : decode cX12_take 14 = .ok (.aload_n 0, 1) := by decide +kernel
theorem dX12_take_15 : decode cX12_take 15 = .ok (.getfield 7, 3) := by decide +kernel
theorem dX12_take_18 : decode cX12_take 18 = .ok (.aload_n 0, 1) := by decide +kernel
theorem dX12_take_19 : decode cX12_take 19 = .ok (.getfield 67, 3) := by decide +kernel
theorem dX12_take_22 : decode cX12_take 22 = .ok (.iload 4, 2) := by decide +kernel
theorem dX12_take_24 : decode cX12_take 24 = .ok (.iaload, 1) := by decide +kernel
theorem dX12_take_25 : decode cX12_take 25 = .ok (.dup2, 1) := by decide +kernel
theorem dX12_take_26 : decode cX12_take 26 = .ok (.iaload, 1) := by decide +kernel
theorem dX12_take_27 : decode cX12_take 27 = .ok (.iload_n 3, 1) := by decide +kernel
theorem dX12_take_28 : decode cX12_take 28 = .ok (.aload_n 0, 1) := by decide +kernel
theorem dX12_take_29 : decode cX12_take 29 = .ok (.iload_n 1, 1) := by decide +kernel
theorem dX12_take_30 : decode cX12_take 30 = .ok (.iload 4, 2) := by decide +kernel
theorem dX12_take_32 : decode cX12_take 32 = .ok (.invokevirtual 124, 3) := by decide +kernel
theorem dX12_take_35 : decode cX12_take 35 = .ok (.imul, 1) := by decide +kernel
theorem dX12_take_36 : decode cX12_take 36 = .ok (.isub, 1) := by decide +kernel
theorem dX12_take_37 : decode cX12_take 37 = .ok (.iastore, 1) := by decide +kernel
theorem dX12_take_38 : decode cX12_take 38 = .ok (.iinc 4 1, 3) := by decide +kernel
theorem dX12_take_41 : decode cX12_take 41 = .ok (.goto (-33), 3) := by decide +kernel
theorem dX12_take_44 : decode cX12_take 44 = .ok (.return_, 1) := by decide +kernel
theorem dX12_lastDay_0 : decode cX12_lastDay 0 = .ok (.iconst 0, 1) := by decide +kernel
theorem dX12_lastDay_1 : decode cX12_lastDay 1 = .ok (.istore_n 1, 1) := by decide +kernel
theorem dX12_lastDay_2 : decode cX12_lastDay 2 = .ok (.iconst 0, 1) := by decide +kernel
theorem dX12_lastDay_3 : decode cX12_lastDay 3 = .ok (.istore_n 2, 1) := by decide +kernel
theorem dX12_lastDay_4 : decode cX12_lastDay 4 = .ok (.iload_n 2, 1) := by decide +kernel
theorem dX12_lastDay_5 : decode cX12_lastDay 5 = .ok (.aload_n 0, 1) := by decide +kernel
theorem dX12_lastDay_6 : decode cX12_lastDay 6 = .ok (.getfield 113, 3) := by decide +kernel
theorem dX12_lastDay_9 : decode cX12_lastDay 9 = .ok (.if_icmp .ge 35, 3) := by decide +kernel
theorem dX12_lastDay_12 : decode cX12_lastDay 12 = .ok (.aload_n 0, 1) := by decide +kernel
theorem dX12_lastDay_13 : decode cX12_lastDay 13 = .ok (.getfield 34, 3) := by decide +kernel
theorem dX12_lastDay_16 : decode cX12_lastDay 16 = .ok (.iload_n 2, 1) := by decide +kernel
theorem dX12_lastDay_17 : decode cX12_lastDay 17 = .ok (.baload, 1) := by decide +kernel
theorem dX12_lastDay_18 : decode cX12_lastDay 18 = .ok (.ifCond .eq 20, 3) := by decide +kernel
theorem dX12_lastDay_21 : decode cX12_lastDay 21 = .ok (.aload_n 0, 1) := by decide +kernel
theorem dX12_lastDay_22 : decode cX12_lastDay 22 = .ok (.getfield 41, 3) := by decide +kernel
theorem dX12_lastDay_25 : decode cX12_lastDay 25 = .ok (.iload_n 2, 1) := by decide +kernel
theorem dX12_lastDay_26 : decode cX12_lastDay 26 = .ok (.iaload, 1) := by decide +kernel
theorem dX12_lastDay_27 : decode cX12_lastDay 27 = .ok (.iload_n 1, 1) := by decide +kernel
theorem dX12_lastDay_28 : decode cX12_lastDay 28 = .ok (.if_icmp .le 10, 3) := by decide +kernel
theorem dX12_lastDay_31 : decode cX12_lastDay 31 = .ok (.aload_n 0, 1) := by decide +kernel
theorem dX12_lastDay_32 : decode cX12_lastDay 32 = .ok (.getfield 41, 3) := by decide +kernel
theorem dX12_lastDay_35 : decode cX12_lastDay 35 = .ok (.iload_n 2, 1) := by decide +kernel
theorem dX12_lastDay_36 : decode cX12_lastDay 36 = .ok (.iaload, 1) := by decide +kernel
theorem dX12_lastDay_37 : decode cX12_lastDay 37 = .ok (.istore_n 1, 1) := by decide +kernel
theorem dX12_lastDay_38 : decode cX12_lastDay 38 = .ok (.iinc 2 1, 3) := by decide +kernel
theorem dX12_lastDay_41 : decode cX12_lastDay 41 = .ok (.goto (-37), 3) := by decide +kernel
theorem dX12_lastDay_44 : decode cX12_lastDay 44 = .ok (.iload_n 1, 1) := by decide +kernel
theorem dX12_lastDay_45 : decode cX12_lastDay 45 = .ok (.ireturn, 1) := by decide +kernel
theorem dX12_knit_0 : decode cX12_knit 0 = .ok (.aload_n 0, 1) := by decide +kernel
theorem dX12_knit_1 : decode cX12_knit 1 = .ok (.iload_n 1, 1) := by decide +kernel
theorem dX12_knit_2 : decode cX12_knit 2 = .ok (.invokevirtual 127, 3) := by decide +kernel
theorem dX12_knit_5 : decode cX12_knit 5 = .ok (.ifCond .eq 27, 3) := by decide +kernel
theorem dX12_knit_8 : decode cX12_knit 8 = .ok (.iload_n 2, 1) := by decide +kernel
theorem dX12_knit_9 : decode cX12_knit 9 = .ok (.iconst 0, 1) := by decide +kernel
theorem dX12_knit_10 : decode cX12_knit 10 = .ok (.sipush 7775, 3) := by decide +kernel
theorem dX12_knit_13 : decode cX12_knit 13 = .ok (.invokestatic 109, 3) := by decide +kernel
theorem dX12_knit_16 : decode cX12_knit 16 = .ok (.ifCond .eq 16, 3) := by decide +kernel
theorem dX12_knit_19 : decode cX12_knit 19 = .ok (.iload_n 3, 1) := by decide +kernel
theorem dX12_knit_20 : decode cX12_knit 20 = .ok (.aload_n 0, 1) := by decide +kernel
theorem dX12_knit_21 : decode cX12_knit 21 = .ok (.invokevirtual 281, 3) := by decide +kernel
theorem dX12_knit_24 : decode cX12_knit 24 = .ok (.bipush 99, 2) := by decide +kernel
theorem dX12_knit_26 : decode cX12_knit 26 = .ok (.invokestatic 109, 3) := by decide +kernel
theorem dX12_knit_29 : decode cX12_knit 29 = .ok (.ifCond .ne 6, 3) := by decide +kernel
theorem dX12_knit_32 : decode cX12_knit 32 = .ok (.bipush (-2), 2) := by decide +kernel
theorem dX12_knit_34 : decode cX12_knit 34 = .ok (.ireturn, 1) := by decide +kernel
theorem dX12_knit_35 : decode cX12_knit 35 = .ok (.aload_n 0, 1) := by decide +kernel
theorem dX12_knit_36 : decode cX12_knit 36 = .ok (.getfield 34, 3) := by decide +kernel
theorem dX12_knit_39 : decode cX12_knit 39 = .ok (.iload_n 1, 1) := by decide +kernel
theorem dX12_knit_40 : decode cX12_knit 40 = .ok (.baload, 1) := by decide +kernel
theorem dX12_knit_41 : decode cX12_knit 41 = .ok (.ifCond .eq 6, 3) := by decide +kernel
theorem dX12_knit_44 : decode cX12_knit 44 = .ok (.bipush (-3), 2) := by decide +kernel
theorem dX12_knit_46 : decode cX12_knit 46 = .ok (.ireturn, 1) := by decide +kernel
theorem dX12_knit_47 : decode cX12_knit 47 = .ok (.aload_n 0, 1) := by decide +kernel
theorem dX12_knit_48 : decode cX12_knit 48 = .ok (.iload_n 1, 1) := by decide +kernel
theorem dX12_knit_49 : decode cX12_knit 49 = .ok (.iload_n 2, 1) := by decide +kernel
theorem dX12_knit_50 : decode cX12_knit 50 = .ok (.invokevirtual 259, 3) := by decide +kernel
theorem dX12_knit_53 : decode cX12_knit 53 = .ok (.istore 4, 2) := by decide +kernel
theorem dX12_knit_55 : decode cX12_knit 55 = .ok (.iload 4, 2) := by decide +kernel
theorem dX12_knit_57 : decode cX12_knit 57 = .ok (.iconst (-1), 1) := by decide +kernel
theorem dX12_knit_58 : decode cX12_knit 58 = .ok (.if_icmp .eq 6, 3) := by decide +kernel
theorem dX12_knit_61 : decode cX12_knit 61 = .ok (.iload 4, 2) := by decide +kernel
theorem dX12_knit_63 : decode cX12_knit 63 = .ok (.ireturn, 1) := by decide +kernel
theorem dX12_knit_64 : decode cX12_knit 64 = .ok (.aload_n 0, 1) := by decide +kernel
theorem dX12_knit_65 : decode cX12_knit 65 = .ok (.iload_n 1, 1) := by decide +kernel
theorem dX12_knit_66 : decode cX12_knit 66 = .ok (.iload_n 2, 1) := by decide +kernel
theorem dX12_knit_67 : decode cX12_knit 67 = .ok (.iconst 1, 1) := by decide +kernel
theorem dX12_knit_68 : decode cX12_knit 68 = .ok (.invokevirtual 284, 3) := by decide +kernel
theorem dX12_knit_71 : decode cX12_knit 71 = .ok (.aload_n 0, 1) := by decide +kernel
theorem dX12_knit_72 : decode cX12_knit 72 = .ok (.getfield 34, 3) := by decide +kernel
theorem dX12_knit_75 : decode cX12_knit 75 = .ok (.iload_n 1, 1) := by decide +kernel
theorem dX12_knit_76 : decode cX12_knit 76 = .ok (.iconst 1, 1) := by decide +kernel
theorem dX12_knit_77 : decode cX12_knit 77 = .ok (.bastore, 1) := by decide +kernel
theorem dX12_knit_78 : decode cX12_knit 78 = .ok (.aload_n 0, 1) := by decide +kernel
theorem dX12_knit_79 : decode cX12_knit 79 = .ok (.getfield 38, 3) := by decide +kernel
theorem dX12_knit_82 : decode cX12_knit 82 = .ok (.iload_n 1, 1) := by decide +kernel
theorem dX12_knit_83 : decode cX12_knit 83 = .ok (.iload_n 2, 1) := by decide +kernel
theorem dX12_knit_84 : decode cX12_knit 84 = .ok (.iastore, 1) := by decide +kernel
theorem dX12_knit_85 : decode cX12_knit 85 = .ok (.aload_n 0, 1) := by decide +kernel
theorem dX12_knit_86 : decode cX12_knit 86 = .ok (.getfield 41, 3) := by decide +kernel
theorem dX12_knit_89 : decode cX12_knit 89 = .ok (.iload_n 1, 1) := by decide +kernel
theorem dX12_knit_90 : decode cX12_knit 90 = .ok (.iload_n 3, 1) := by decide +kernel
theorem dX12_knit_91 : decode cX12_knit 91 = .ok (.iastore, 1) := by decide +kernel
theorem dX12_knit_92 : decode cX12_knit 92 = .ok (.iconst (-1), 1) := by decide +kernel
theorem dX12_knit_93 : decode cX12_knit 93 = .ok (.ireturn, 1) := by decide +kernel
theorem dX12_undo_0 : decode cX12_undo 0 = .ok (.aload_n 0, 1) := by decide +kernel
theorem dX12_undo_1 : decode cX12_undo 1 = .ok (.iload_n 1, 1) := by decide +kernel
theorem dX12_undo_2 : decode cX12_undo 2 = .ok (.invokevirtual 127, 3) := by decide +kernel
theorem dX12_undo_5 : decode cX12_undo 5 = .ok (.ifCond .ne 6, 3) := by decide +kernel
theorem dX12_undo_8 : decode cX12_undo 8 = .ok (.bipush (-2), 2) := by decide +kernel
theorem dX12_undo_10 : decode cX12_undo 10 = .ok (.ireturn, 1) := by decide +kernel
theorem dX12_undo_11 : decode cX12_undo 11 = .ok (.aload_n 0, 1) := by decide +kernel
theorem dX12_undo_12 : decode cX12_undo 12 = .ok (.getfield 34, 3) := by decide +kernel
theorem dX12_undo_15 : decode cX12_undo 15 = .ok (.iload_n 1, 1) := by decide +kernel
theorem dX12_undo_16 : decode cX12_undo 16 = .ok (.baload, 1) := by decide +kernel
theorem dX12_undo_17 : decode cX12_undo 17 = .ok (.ifCond .ne 6, 3) := by decide +kernel
theorem dX12_undo_20 : decode cX12_undo 20 = .ok (.bipush (-3), 2) := by decide +kernel
theorem dX12_undo_22 : decode cX12_undo 22 = .ok (.ireturn, 1) := by decide +kernel
theorem dX12_undo_23 : decode cX12_undo 23 = .ok (.aload_n 0, 1) := by decide +kernel
theorem dX12_undo_24 : decode cX12_undo 24 = .ok (.getfield 34, 3) := by decide +kernel
theorem dX12_undo_27 : decode cX12_undo 27 = .ok (.iload_n 1, 1) := by decide +kernel
theorem dX12_undo_28 : decode cX12_undo 28 = .ok (.iconst 0, 1) := by decide +kernel
theorem dX12_undo_29 : decode cX12_undo 29 = .ok (.bastore, 1) := by decide +kernel
theorem dX12_undo_30 : decode cX12_undo 30 = .ok (.aload_n 0, 1) := by decide +kernel
theorem dX12_undo_31 : decode cX12_undo 31 = .ok (.aload_n 0, 1) := by decide +kernel
theorem dX12_undo_32 : decode cX12_undo 32 = .ok (.getfield 38, 3) := by decide +kernel
theorem dX12_undo_35 : decode cX12_undo 35 = .ok (.iload_n 1, 1) := by decide +kernel
theorem dX12_undo_36 : decode cX12_undo 36 = .ok (.iaload, 1) := by decide +kernel
theorem dX12_undo_37 : decode cX12_undo 37 = .ok (.invokevirtual 256, 3) := by decide +kernel
theorem dX12_undo_40 : decode cX12_undo 40 = .ok (.iconst 0, 1) := by decide +kernel
theorem dX12_undo_41 : decode cX12_undo 41 = .ok (.istore_n 2, 1) := by decide +kernel
theorem dX12_undo_42 : decode cX12_undo 42 = .ok (.iconst 0, 1) := by decide +kernel
theorem dX12_undo_43 : decode cX12_undo 43 = .ok (.istore_n 3, 1) := by decide +kernel
theorem dX12_undo_44 : decode cX12_undo 44 = .ok (.iload_n 3, 1) := by decide +kernel
theorem dX12_undo_45 : decode cX12_undo 45 = .ok (.iconst 5, 1) := by decide +kernel
theorem dX12_undo_46 : decode cX12_undo 46 = .ok (.if_icmp .ge 53, 3) := by decide +kernel
theorem dX12_undo_49 : decode cX12_undo 49 = .ok (.aload_n 0, 1) := by decide +kernel
theorem dX12_undo_50 : decode cX12_undo 50 = .ok (.iload_n 1, 1) := by decide +kernel
theorem dX12_undo_51 : decode cX12_undo 51 = .ok (.iload_n 3, 1) := by decide +kernel
theorem dX12_undo_52 : decode cX12_undo 52 = .ok (.invokevirtual 124, 3) := by decide +kernel
theorem dX12_undo_55 : decode cX12_undo 55 = .ok (.ifCond .le 14, 3) := by decide +kernel
theorem dX12_undo_58 : decode cX12_undo 58 = .ok (.aload_n 0, 1) := by decide +kernel
theorem dX12_undo_59 : decode cX12_undo 59 = .ok (.iload_n 1, 1) := by decide +kernel
theorem dX12_undo_60 : decode cX12_undo 60 = .ok (.iload_n 3, 1) := by decide +kernel
theorem dX12_undo_61 : decode cX12_undo 61 = .ok (.invokevirtual 124, 3) := by decide +kernel
theorem dX12_undo_64 : decode cX12_undo 64 = .ok (.iconst 1, 1) := by decide +kernel
theorem dX12_undo_65 : decode cX12_undo 65 = .ok (.isub, 1) := by decide +kernel
theorem dX12_undo_66 : decode cX12_undo 66 = .ok (.goto 4, 3) := by decide +kernel
theorem dX12_undo_69 : decode cX12_undo 69 = .ok (.iconst 0, 1) := by decide +kernel
theorem dX12_undo_70 : decode cX12_undo 70 = .ok (.istore 4, 2) := by decide +kernel
theorem dX12_undo_72 : decode cX12_undo 72 = .ok (.aload_n 0, 1) := by decide +kernel
theorem dX12_undo_73 : decode cX12_undo 73 = .ok (.getfield 7, 3) := by decide +kernel
theorem dX12_undo_76 : decode cX12_undo 76 = .ok (.aload_n 0, 1) := by decide +kernel
theorem dX12_undo_77 : decode cX12_undo 77 = .ok (.getfield 67, 3) := by decide +kernel
theorem dX12_undo_80 : decode cX12_undo 80 = .ok (.iload_n 3, 1) := by decide +kernel
theorem dX12_undo_81 : decode cX12_undo 81 = .ok (.iaload, 1) := by decide +kernel
theorem dX12_undo_82 : decode cX12_undo 82 = .ok (.dup2, 1) := by decide +kernel
theorem dX12_undo_83 : decode cX12_undo 83 = .ok (.iaload, 1) := by decide +kernel
theorem dX12_undo_84 : decode cX12_undo 84 = .ok (.iload 4, 2) := by decide +kernel
theorem dX12_undo_86 : decode cX12_undo 86 = .ok (.iadd, 1) := by decide +kernel
theorem dX12_undo_87 : decode cX12_undo 87 = .ok (.iastore, 1) := by decide +kernel
theorem dX12_undo_88 : decode cX12_undo 88 = .ok (.iload_n 2, 1) := by decide +kernel
theorem dX12_undo_89 : decode cX12_undo 89 = .ok (.iload 4, 2) := by decide +kernel
theorem dX12_undo_91 : decode cX12_undo 91 = .ok (.iadd, 1) := by decide +kernel
theorem dX12_undo_92 : decode cX12_undo 92 = .ok (.istore_n 2, 1) := by decide +kernel
theorem dX12_undo_93 : decode cX12_undo 93 = .ok (.iinc 3 1, 3) := by decide +kernel
theorem dX12_undo_96 : decode cX12_undo 96 = .ok (.goto (-52), 3) := by decide +kernel
theorem dX12_undo_99 : decode cX12_undo 99 = .ok (.iload_n 2, 1) := by decide +kernel
theorem dX12_undo_100 : decode cX12_undo 100 = .ok (.ireturn, 1) := by decide +kernel
theorem dX12_goOn_0 : decode cX12_goOn 0 = .ok (.iload 4, 2) := by decide +kernel
theorem dX12_goOn_2 : decode cX12_goOn 2 = .ok (.aload_n 0, 1) := by decide +kernel
theorem dX12_goOn_3 : decode cX12_goOn 3 = .ok (.getfield 288, 3) := by decide +kernel
theorem dX12_goOn_6 : decode cX12_goOn 6 = .ok (.if_icmp .gt 36, 3) := by decide +kernel
theorem dX12_goOn_9 : decode cX12_goOn 9 = .ok (.iload 4, 2) := by decide +kernel
theorem dX12_goOn_11 : decode cX12_goOn 11 = .ok (.aload_n 0, 1) := by decide +kernel
theorem dX12_goOn_12 : decode cX12_goOn 12 = .ok (.getfield 288, 3) := by decide +kernel
theorem dX12_goOn_15 : decode cX12_goOn 15 = .ok (.if_icmp .ne 31, 3) := by decide +kernel
theorem dX12_goOn_18 : decode cX12_goOn 18 = .ok (.iload_n 3, 1) := by decide +kernel
theorem dX12_goOn_19 : decode cX12_goOn 19 = .ok (.aload_n 0, 1) := by decide +kernel
theorem dX12_goOn_20 : decode cX12_goOn 20 = .ok (.getfield 291, 3) := by decide +kernel
theorem dX12_goOn_23 : decode cX12_goOn 23 = .ok (.if_icmp .lt 19, 3) := by decide +kernel
theorem dX12_goOn_26 : decode cX12_goOn 26 = .ok (.iload_n 3, 1) := by decide +kernel
theorem dX12_goOn_27 : decode cX12_goOn 27 = .ok (.aload_n 0, 1) := by decide +kernel
theorem dX12_goOn_28 : decode cX12_goOn 28 = .ok (.getfield 291, 3) := by decide +kernel
theorem dX12_goOn_31 : decode cX12_goOn 31 = .ok (.if_icmp .ne 15, 3) := by decide +kernel
theorem dX12_goOn_34 : decode cX12_goOn 34 = .ok (.iload_n 2, 1) := by decide +kernel
theorem dX12_goOn_35 : decode cX12_goOn 35 = .ok (.aload_n 0, 1) := by decide +kernel
theorem dX12_goOn_36 : decode cX12_goOn 36 = .ok (.getfield 294, 3) := by decide +kernel
theorem dX12_goOn_39 : decode cX12_goOn 39 = .ok (.if_icmp .ge 7, 3) := by decide +kernel
theorem dX12_goOn_42 : decode cX12_goOn 42 = .ok (.iconst 1, 1) := by decide +kernel
theorem dX12_goOn_43 : decode cX12_goOn 43 = .ok (.goto 4, 3) := by decide +kernel
theorem dX12_goOn_46 : decode cX12_goOn 46 = .ok (.iconst 0, 1) := by decide +kernel
theorem dX12_goOn_47 : decode cX12_goOn 47 = .ok (.istore 5, 2) := by decide +kernel
theorem dX12_goOn_49 : decode cX12_goOn 49 = .ok (.iload 5, 2) := by decide +kernel
theorem dX12_goOn_51 : decode cX12_goOn 51 = .ok (.ifCond .eq 19, 3) := by decide +kernel
theorem dX12_goOn_54 : decode cX12_goOn 54 = .ok (.aload_n 0, 1) := by decide +kernel
theorem dX12_goOn_55 : decode cX12_goOn 55 = .ok (.iload 4, 2) := by decide +kernel
theorem dX12_goOn_57 : decode cX12_goOn 57 = .ok (.putfield 288, 3) := by decide +kernel
theorem dX12_goOn_60 : decode cX12_goOn 60 = .ok (.aload_n 0, 1) := by decide +kernel
theorem dX12_goOn_61 : decode cX12_goOn 61 = .ok (.iload_n 2, 1) := by decide +kernel
theorem dX12_goOn_62 : decode cX12_goOn 62 = .ok (.putfield 294, 3) := by decide +kernel
theorem dX12_goOn_65 : decode cX12_goOn 65 = .ok (.aload_n 0, 1) := by decide +kernel
theorem dX12_goOn_66 : decode cX12_goOn 66 = .ok (.iload_n 3, 1) := by decide +kernel
theorem dX12_goOn_67 : decode cX12_goOn 67 = .ok (.putfield 291, 3) := by decide +kernel
theorem dX12_goOn_70 : decode cX12_goOn 70 = .ok (.iconst 0, 1) := by decide +kernel
theorem dX12_goOn_71 : decode cX12_goOn 71 = .ok (.istore 6, 2) := by decide +kernel
theorem dX12_goOn_73 : decode cX12_goOn 73 = .ok (.iload 6, 2) := by decide +kernel
theorem dX12_goOn_75 : decode cX12_goOn 75 = .ok (.aload_n 0, 1) := by decide +kernel
theorem dX12_goOn_76 : decode cX12_goOn 76 = .ok (.getfield 113, 3) := by decide +kernel
theorem dX12_goOn_79 : decode cX12_goOn 79 = .ok (.if_icmp .ge 109, 3) := by decide +kernel
theorem dX12_goOn_82 : decode cX12_goOn 82 = .ok (.iload 6, 2) := by decide +kernel
theorem dX12_goOn_84 : decode cX12_goOn 84 = .ok (.iconst 3, 1) := by decide +kernel
theorem dX12_goOn_85 : decode cX12_goOn 85 = .ok (.if_icmp .ge 103, 3) := by decide +kernel
theorem dX12_goOn_88 : decode cX12_goOn 88 = .ok (.iload_n 1, 1) := by decide +kernel
theorem dX12_goOn_89 : decode cX12_goOn 89 = .ok (.iload 6, 2) := by decide +kernel
theorem dX12_goOn_91 : decode cX12_goOn 91 = .ok (.ishr, 1) := by decide +kernel
theorem dX12_goOn_92 : decode cX12_goOn 92 = .ok (.iconst 1, 1) := by decide +kernel
theorem dX12_goOn_93 : decode cX12_goOn 93 = .ok (.iand, 1) := by decide +kernel
theorem dX12_goOn_94 : decode cX12_goOn 94 = .ok (.iconst 1, 1) := by decide +kernel
theorem dX12_goOn_95 : decode cX12_goOn 95 = .ok (.if_icmp .eq 87, 3) := by decide +kernel
theorem dX12_goOn_98 : decode cX12_goOn 98 = .ok (.aload_n 0, 1) := by decide +kernel
theorem dX12_goOn_99 : decode cX12_goOn 99 = .ok (.getfield 34, 3) := by decide +kernel
theorem dX12_goOn_102 : decode cX12_goOn 102 = .ok (.iload 6, 2) := by decide +kernel
theorem dX12_goOn_104 : decode cX12_goOn 104 = .ok (.baload, 1) := by decide +kernel
theorem dX12_goOn_105 : decode cX12_goOn 105 = .ok (.ifCond .eq 6, 3) := by decide +kernel
theorem dX12_goOn_108 : decode cX12_goOn 108 = .ok (.goto 74, 3) := by decide +kernel
theorem dX12_goOn_111 : decode cX12_goOn 111 = .ok (.aload_n 0, 1) := by decide +kernel
theorem dX12_goOn_112 : decode cX12_goOn 112 = .ok (.iload 6, 2) := by decide +kernel
theorem dX12_goOn_114 : decode cX12_goOn 114 = .ok (.invokevirtual 278, 3) := by decide +kernel
theorem dX12_goOn_117 : decode cX12_goOn 117 = .ok (.aload_n 0, 1) := by decide +kernel
theorem dX12_goOn_118 : decode cX12_goOn 118 = .ok (.getfield 271, 3) := by decide +kernel
theorem dX12_goOn_121 : decode cX12_goOn 121 = .ok (.ifCond .ne 6, 3) := by decide +kernel
theorem dX12_goOn_124 : decode cX12_goOn 124 = .ok (.goto 58, 3) := by decide +kernel
theorem dX12_goOn_127 : decode cX12_goOn 127 = .ok (.aload_n 0, 1) := by decide +kernel
theorem dX12_goOn_128 : decode cX12_goOn 128 = .ok (.getfield 265, 3) := by decide +kernel
theorem dX12_goOn_131 : decode cX12_goOn 131 = .ok (.istore 7, 2) := by decide +kernel
theorem dX12_goOn_133 : decode cX12_goOn 133 = .ok (.aload_n 0, 1) := by decide +kernel
theorem dX12_goOn_134 : decode cX12_goOn 134 = .ok (.iload 6, 2) := by decide +kernel
theorem dX12_goOn_136 : decode cX12_goOn 136 = .ok (.iload 7, 2) := by decide +kernel
theorem dX12_goOn_138 : decode cX12_goOn 138 = .ok (.iconst 1, 1) := by decide +kernel
theorem dX12_goOn_139 : decode cX12_goOn 139 = .ok (.invokevirtual 284, 3) := by decide +kernel
theorem dX12_goOn_142 : decode cX12_goOn 142 = .ok (.aload_n 0, 1) := by decide +kernel
theorem dX12_goOn_143 : decode cX12_goOn 143 = .ok (.iload_n 1, 1) := by decide +kernel
theorem dX12_goOn_144 : decode cX12_goOn 144 = .ok (.iconst 1, 1) := by decide +kernel
theorem dX12_goOn_145 : decode cX12_goOn 145 = .ok (.iload 6, 2) := by decide +kernel
theorem dX12_goOn_147 : decode cX12_goOn 147 = .ok (.ishl, 1) := by decide +kernel
theorem dX12_goOn_148 : decode cX12_goOn 148 = .ok (.ior, 1) := by decide +kernel
theorem dX12_goOn_149 : decode cX12_goOn 149 = .ok (.bipush 10, 2) := by decide +kernel
theorem dX12_goOn_151 : decode cX12_goOn 151 = .ok (.iload_n 2, 1) := by decide +kernel
theorem dX12_goOn_152 : decode cX12_goOn 152 = .ok (.imul, 1) := by decide +kernel
theorem dX12_goOn_153 : decode cX12_goOn 153 = .ok (.iload 6, 2) := by decide +kernel
theorem dX12_goOn_155 : decode cX12_goOn 155 = .ok (.iadd, 1) := by decide +kernel
theorem dX12_goOn_156 : decode cX12_goOn 156 = .ok (.iconst 1, 1) := by decide +kernel
theorem dX12_goOn_157 : decode cX12_goOn 157 = .ok (.iadd, 1) := by decide +kernel
theorem dX12_goOn_158 : decode cX12_goOn 158 = .ok (.iload_n 3, 1) := by decide +kernel
theorem dX12_goOn_159 : decode cX12_goOn 159 = .ok (.iconst 1, 1) := by decide +kernel
theorem dX12_goOn_160 : decode cX12_goOn 160 = .ok (.iadd, 1) := by decide +kernel
theorem dX12_goOn_161 : decode cX12_goOn 161 = .ok (.iload 4, 2) := by decide +kernel
theorem dX12_goOn_163 : decode cX12_goOn 163 = .ok (.aload_n 0, 1) := by decide +kernel
theorem dX12_goOn_164 : decode cX12_goOn 164 = .ok (.iload 6, 2) := by decide +kernel
theorem dX12_goOn_166 : decode cX12_goOn 166 = .ok (.invokevirtual 136, 3) := by decide +kernel
theorem dX12_goOn_169 : decode cX12_goOn 169 = .ok (.iadd, 1) := by decide +kernel
theorem dX12_goOn_170 : decode cX12_goOn 170 = .ok (.invokevirtual 297, 3) := by decide +kernel
theorem dX12_goOn_173 : decode cX12_goOn 173 = .ok (.aload_n 0, 1) := by decide +kernel
theorem dX12_goOn_174 : decode cX12_goOn 174 = .ok (.iload 6, 2) := by decide +kernel
theorem dX12_goOn_176 : decode cX12_goOn 176 = .ok (.iload 7, 2) := by decide +kernel
theorem dX12_goOn_178 : decode cX12_goOn 178 = .ok (.iconst (-1), 1) := by decide +kernel
theorem dX12_goOn_179 : decode cX12_goOn 179 = .ok (.invokevirtual 284, 3) := by decide +kernel
theorem dX12_goOn_182 : decode cX12_goOn 182 = .ok (.iinc 6 1, 3) := by decide +kernel
theorem dX12_goOn_185 : decode cX12_goOn 185 = .ok (.goto (-112), 3) := by decide +kernel
theorem dX12_goOn_188 : decode cX12_goOn 188 = .ok (.return_, 1) := by decide +kernel
theorem dX12_findMost_0 : decode cX12_findMost 0 = .ok (.aload_n 0, 1) := by decide +kernel
theorem dX12_findMost_1 : decode cX12_findMost 1 = .ok (.iconst 0, 1) := by decide +kernel
theorem dX12_findMost_2 : decode cX12_findMost 2 = .ok (.putfield 288, 3) := by decide +kernel
theorem dX12_findMost_5 : decode cX12_findMost 5 = .ok (.aload_n 0, 1) := by decide +kernel
theorem dX12_findMost_6 : decode cX12_findMost 6 = .ok (.iconst 0, 1) := by decide +kernel
theorem dX12_findMost_7 : decode cX12_findMost 7 = .ok (.putfield 294, 3) := by decide +kernel
theorem dX12_findMost_10 : decode cX12_findMost 10 = .ok (.aload_n 0, 1) := by decide +kernel
theorem dX12_findMost_11 : decode cX12_findMost 11 = .ok (.iconst 0, 1) := by decide +kernel
theorem dX12_findMost_12 : decode cX12_findMost 12 = .ok (.putfield 291, 3) := by decide +kernel
theorem dX12_findMost_15 : decode cX12_findMost 15 = .ok (.aload_n 0, 1) := by decide +kernel
theorem dX12_findMost_16 : decode cX12_findMost 16 = .ok (.iconst 0, 1) := by decide +kernel
theorem dX12_findMost_17 : decode cX12_findMost 17 = .ok (.iconst 0, 1) := by decide +kernel
theorem dX12_findMost_18 : decode cX12_findMost 18 = .ok (.iconst 0, 1) := by decide +kernel
theorem dX12_findMost_19 : decode cX12_findMost 19 = .ok (.iconst 0, 1) := by decide +kernel
theorem dX12_findMost_20 : decode cX12_findMost 20 = .ok (.invokevirtual 297, 3) := by decide +kernel
theorem dX12_findMost_23 : decode cX12_findMost 23 = .ok (.return_, 1) := by decide +kernel
theorem dX12_allOunces_0 : decode cX12_allOunces 0 = .ok (.iconst 0, 1) := by decide +kernel
theorem dX12_allOunces_1 : decode cX12_allOunces 1 = .ok (.istore_n 1, 1) := by decide +kernel
theorem dX12_allOunces_2 : decode cX12_allOunces 2 = .ok (.iconst 0, 1) := by decide +kernel
theorem dX12_allOunces_3 : decode cX12_allOunces 3 = .ok (.istore_n 2, 1) := by decide +kernel
theorem dX12_allOunces_4 : decode cX12_allOunces 4 = .ok (.iload_n 2, 1) := by decide +kernel
theorem dX12_allOunces_5 : decode cX12_allOunces 5 = .ok (.aload_n 0, 1) := by decide +kernel
theorem dX12_allOunces_6 : decode cX12_allOunces 6 = .ok (.getfield 106, 3) := by decide +kernel
theorem dX12_allOunces_9 : decode cX12_allOunces 9 = .ok (.if_icmp .ge 18, 3) := by decide +kernel
theorem dX12_allOunces_12 : decode cX12_allOunces 12 = .ok (.iload_n 1, 1) := by decide +kernel
theorem dX12_allOunces_13 : decode cX12_allOunces 13 = .ok (.aload_n 0, 1) := by decide +kernel
theorem dX12_allOunces_14 : decode cX12_allOunces 14 = .ok (.getfield 7, 3) := by decide +kernel
theorem dX12_allOunces_17 : decode cX12_allOunces 17 = .ok (.iload_n 2, 1) := by decide +kernel
theorem dX12_allOunces_18 : decode cX12_allOunces 18 = .ok (.iaload, 1) := by decide +kernel
theorem dX12_allOunces_19 : decode cX12_allOunces 19 = .ok (.iadd, 1) := by decide +kernel
theorem dX12_allOunces_20 : decode cX12_allOunces 20 = .ok (.istore_n 1, 1) := by decide +kernel
theorem dX12_allOunces_21 : decode cX12_allOunces 21 = .ok (.iinc 2 1, 3) := by decide +kernel
theorem dX12_allOunces_24 : decode cX12_allOunces 24 = .ok (.goto (-20), 3) := by decide +kernel
theorem dX12_allOunces_27 : decode cX12_allOunces 27 = .ok (.iload_n 1, 1) := by decide +kernel
theorem dX12_allOunces_28 : decode cX12_allOunces 28 = .ok (.ireturn, 1) := by decide +kernel
theorem dX12_most_0 : decode cX12_most 0 = .ok (.iload_n 1, 1) := by decide +kernel
theorem dX12_most_1 : decode cX12_most 1 = .ok (.iconst 0, 1) := by decide +kernel
theorem dX12_most_2 : decode cX12_most 2 = .ok (.iconst 2, 1) := by decide +kernel
theorem dX12_most_3 : decode cX12_most 3 = .ok (.invokestatic 109, 3) := by decide +kernel
theorem dX12_most_6 : decode cX12_most 6 = .ok (.ifCond .ne 6, 3) := by decide +kernel
theorem dX12_most_9 : decode cX12_most 9 = .ok (.bipush (-2), 2) := by decide +kernel
theorem dX12_most_11 : decode cX12_most 11 = .ok (.ireturn, 1) := by decide +kernel
theorem dX12_most_12 : decode cX12_most 12 = .ok (.iload_n 1, 1) := by decide +kernel
theorem dX12_most_13 : decode cX12_most 13 = .ok (.iconst 2, 1) := by decide +kernel
theorem dX12_most_14 : decode cX12_most 14 = .ok (.if_icmp .ge 23, 3) := by decide +kernel
theorem dX12_most_17 : decode cX12_most 17 = .ok (.aload_n 0, 1) := by decide +kernel
theorem dX12_most_18 : decode cX12_most 18 = .ok (.invokevirtual 301, 3) := by decide +kernel
theorem dX12_most_21 : decode cX12_most 21 = .ok (.iload_n 1, 1) := by decide +kernel
theorem dX12_most_22 : decode cX12_most 22 = .ok (.ifCond .ne 10, 3) := by decide +kernel
theorem dX12_most_25 : decode cX12_most 25 = .ok (.aload_n 0, 1) := by decide +kernel
theorem dX12_most_26 : decode cX12_most 26 = .ok (.getfield 288, 3) := by decide +kernel
theorem dX12_most_29 : decode cX12_most 29 = .ok (.goto 7, 3) := by decide +kernel
theorem dX12_most_32 : decode cX12_most 32 = .ok (.aload_n 0, 1) := by decide +kernel
theorem dX12_most_33 : decode cX12_most 33 = .ok (.getfield 294, 3) := by decide +kernel
theorem dX12_most_36 : decode cX12_most 36 = .ok (.ireturn, 1) := by decide +kernel
theorem dX12_most_37 : decode cX12_most 37 = .ok (.iconst 0, 1) := by decide +kernel
theorem dX12_most_38 : decode cX12_most 38 = .ok (.istore_n 2, 1) := by decide +kernel
theorem dX12_most_39 : decode cX12_most 39 = .ok (.iconst 0, 1) := by decide +kernel
theorem dX12_most_40 : decode cX12_most 40 = .ok (.istore_n 3, 1) := by decide +kernel
theorem dX12_most_41 : decode cX12_most 41 = .ok (.iload_n 3, 1) := by decide +kernel
theorem dX12_most_42 : decode cX12_most 42 = .ok (.aload_n 0, 1) := by decide +kernel
theorem dX12_most_43 : decode cX12_most 43 = .ok (.getfield 113, 3) := by decide +kernel
theorem dX12_most_46 : decode cX12_most 46 = .ok (.if_icmp .ge 51, 3) := by decide +kernel
theorem dX12_most_49 : decode cX12_most 49 = .ok (.iload_n 3, 1) := by decide +kernel
theorem dX12_most_50 : decode cX12_most 50 = .ok (.iconst 3, 1) := by decide +kernel
theorem dX12_most_51 : decode cX12_most 51 = .ok (.if_icmp .ge 46, 3) := by decide +kernel
theorem dX12_most_54 : decode cX12_most 54 = .ok (.aload_n 0, 1) := by decide +kernel
theorem dX12_most_55 : decode cX12_most 55 = .ok (.getfield 34, 3) := by decide +kernel
theorem dX12_most_58 : decode cX12_most 58 = .ok (.iload_n 3, 1) := by decide +kernel
theorem dX12_most_59 : decode cX12_most 59 = .ok (.baload, 1) := by decide +kernel
theorem dX12_most_60 : decode cX12_most 60 = .ok (.ifCond .ne 31, 3) := by decide +kernel
theorem dX12_most_63 : decode cX12_most 63 = .ok (.aload_n 0, 1) := by decide +kernel
theorem dX12_most_64 : decode cX12_most 64 = .ok (.iload_n 3, 1) := by decide +kernel
theorem dX12_most_65 : decode cX12_most 65 = .ok (.invokevirtual 136, 3) := by decide +kernel
theorem dX12_most_68 : decode cX12_most 68 = .ok (.ifCond .le 23, 3) := by decide +kernel
theorem dX12_most_71 : decode cX12_most 71 = .ok (.aload_n 0, 1) := by decide +kernel
theorem dX12_most_72 : decode cX12_most 72 = .ok (.iload_n 3, 1) := by decide +kernel
theorem dX12_most_73 : decode cX12_most 73 = .ok (.invokevirtual 140, 3) := by decide +kernel
theorem dX12_most_76 : decode cX12_most 76 = .ok (.aload_n 0, 1) := by decide +kernel
theorem dX12_most_77 : decode cX12_most 77 = .ok (.invokevirtual 304, 3) := by decide +kernel
theorem dX12_most_80 : decode cX12_most 80 = .ok (.if_icmp .gt 11, 3) := by decide +kernel
theorem dX12_most_83 : decode cX12_most 83 = .ok (.iload_n 2, 1) := by decide +kernel
theorem dX12_most_84 : decode cX12_most 84 = .ok (.aload_n 0, 1) := by decide +kernel
theorem dX12_most_85 : decode cX12_most 85 = .ok (.iload_n 3, 1) := by decide +kernel
theorem dX12_most_86 : decode cX12_most 86 = .ok (.invokevirtual 136, 3) := by decide +kernel
theorem dX12_most_89 : decode cX12_most 89 = .ok (.iadd, 1) := by decide +kernel
theorem dX12_most_90 : decode cX12_most 90 = .ok (.istore_n 2, 1) := by decide +kernel
theorem dX12_most_91 : decode cX12_most 91 = .ok (.iinc 3 1, 3) := by decide +kernel
theorem dX12_most_94 : decode cX12_most 94 = .ok (.goto (-53), 3) := by decide +kernel
theorem dX12_most_97 : decode cX12_most 97 = .ok (.iload_n 2, 1) := by decide +kernel
theorem dX12_most_98 : decode cX12_most 98 = .ok (.ireturn, 1) := by decide +kernel
theorem dX12_more_0 : decode cX12_more 0 = .ok (.iload_n 1, 1) := by decide +kernel
theorem dX12_more_1 : decode cX12_more 1 = .ok (.iconst 1, 1) := by decide +kernel
theorem dX12_more_2 : decode cX12_more 2 = .ok (.bipush 50, 2) := by decide +kernel
theorem dX12_more_4 : decode cX12_more 4 = .ok (.invokestatic 109, 3) := by decide +kernel
theorem dX12_more_7 : decode cX12_more 7 = .ok (.ifCond .ne 6, 3) := by decide +kernel
theorem dX12_more_10 : decode cX12_more 10 = .ok (.bipush (-2), 2) := by decide +kernel
theorem dX12_more_12 : decode cX12_more 12 = .ok (.ireturn, 1) := by decide +kernel
theorem dX12_more_13 : decode cX12_more 13 = .ok (.aload_n 0, 1) := by decide +kernel
theorem dX12_more_14 : decode cX12_more 14 = .ok (.invokevirtual 301, 3) := by decide +kernel
theorem dX12_more_17 : decode cX12_more 17 = .ok (.aload_n 0, 1) := by decide +kernel
theorem dX12_more_18 : decode cX12_more 18 = .ok (.getfield 288, 3) := by decide +kernel
theorem dX12_more_21 : decode cX12_more 21 = .ok (.istore_n 2, 1) := by decide +kernel
theorem dX12_more_22 : decode cX12_more 22 = .ok (.iconst (-1), 1) := by decide +kernel
theorem dX12_more_23 : decode cX12_more 23 = .ok (.istore_n 3, 1) := by decide +kernel
theorem dX12_more_24 : decode cX12_more 24 = .ok (.iconst 0, 1) := by decide +kernel
theorem dX12_more_25 : decode cX12_more 25 = .ok (.istore 4, 2) := by decide +kernel
theorem dX12_more_27 : decode cX12_more 27 = .ok (.iload 4, 2) := by decide +kernel
theorem dX12_more_29 : decode cX12_more 29 = .ok (.aload_n 0, 1) := by decide +kernel
theorem dX12_more_30 : decode cX12_more 30 = .ok (.getfield 106, 3) := by decide +kernel
theorem dX12_more_33 : decode cX12_more 33 = .ok (.if_icmp .ge 54, 3) := by decide +kernel
theorem dX12_more_36 : decode cX12_more 36 = .ok (.aload_n 0, 1) := by decide +kernel
theorem dX12_more_37 : decode cX12_more 37 = .ok (.getfield 7, 3) := by decide +kernel
theorem dX12_more_40 : decode cX12_more 40 = .ok (.iload 4, 2) := by decide +kernel
theorem dX12_more_42 : decode cX12_more 42 = .ok (.dup2, 1) := by decide +kernel
theorem dX12_more_43 : decode cX12_more 43 = .ok (.iaload, 1) := by decide +kernel
theorem dX12_more_44 : decode cX12_more 44 = .ok (.iload_n 1, 1) := by decide +kernel
theorem dX12_more_45 : decode cX12_more 45 = .ok (.iadd, 1) := by decide +kernel
theorem dX12_more_46 : decode cX12_more 46 = .ok (.iastore, 1) := by decide +kernel
theorem dX12_more_47 : decode cX12_more 47 = .ok (.aload_n 0, 1) := by decide +kernel
theorem dX12_more_48 : decode cX12_more 48 = .ok (.invokevirtual 301, 3) := by decide +kernel
theorem dX12_more_51 : decode cX12_more 51 = .ok (.aload_n 0, 1) := by decide +kernel
theorem dX12_more_52 : decode cX12_more 52 = .ok (.getfield 7, 3) := by decide +kernel
theorem dX12_more_55 : decode cX12_more 55 = .ok (.iload 4, 2) := by decide +kernel
theorem dX12_more_57 : decode cX12_more 57 = .ok (.dup2, 1) := by decide +kernel
theorem dX12_more_58 : decode cX12_more 58 = .ok (.iaload, 1) := by decide +kernel
theorem dX12_more_59 : decode cX12_more 59 = .ok (.iload_n 1, 1) := by decide +kernel
theorem dX12_more_60 : decode cX12_more 60 = .ok (.isub, 1) := by decide +kernel
theorem dX12_more_61 : decode cX12_more 61 = .ok (.iastore, 1) := by decide +kernel
theorem dX12_more_62 : decode cX12_more 62 = .ok (.aload_n 0, 1) := by decide +kernel
theorem dX12_more_63 : decode cX12_more 63 = .ok (.getfield 288, 3) := by decide +kernel
theorem dX12_more_66 : decode cX12_more 66 = .ok (.iload_n 2, 1) := by decide +kernel
theorem dX12_more_67 : decode cX12_more 67 = .ok (.if_icmp .gt 6, 3) := by decide +kernel
theorem dX12_more_70 : decode cX12_more 70 = .ok (.goto 11, 3) := by decide +kernel
theorem dX12_more_73 : decode cX12_more 73 = .ok (.aload_n 0, 1) := by decide +kernel
theorem dX12_more_74 : decode cX12_more 74 = .ok (.getfield 288, 3) := by decide +kernel
theorem dX12_more_77 : decode cX12_more 77 = .ok (.istore_n 2, 1) := by decide +kernel
theorem dX12_more_78 : decode cX12_more 78 = .ok (.iload 4, 2) := by decide +kernel
theorem dX12_more_80 : decode cX12_more 80 = .ok (.istore_n 3, 1) := by decide +kernel
theorem dX12_more_81 : decode cX12_more 81 = .ok (.iinc 4 1, 3) := by decide +kernel
theorem dX12_more_84 : decode cX12_more 84 = .ok (.goto (-57), 3) := by decide +kernel
theorem dX12_more_87 : decode cX12_more 87 = .ok (.iload_n 3, 1) := by decide +kernel
theorem dX12_more_88 : decode cX12_more 88 = .ok (.ireturn, 1) := by decide +kernel
theorem dX12_late_0 : decode cX12_late 0 = .ok (.iload_n 1, 1) := by decide +kernel
theorem dX12_late_1 : decode cX12_late 1 = .ok (.iconst 0, 1) := by decide +kernel
theorem dX12_late_2 : decode cX12_late 2 = .ok (.bipush 99, 2) := by decide +kernel
theorem dX12_late_4 : decode cX12_late 4 = .ok (.invokestatic 109, 3) := by decide +kernel
theorem dX12_late_7 : decode cX12_late 7 = .ok (.ifCond .ne 6, 3) := by decide +kernel
theorem dX12_late_10 : decode cX12_late 10 = .ok (.bipush (-2), 2) := by decide +kernel
theorem dX12_late_12 : decode cX12_late 12 = .ok (.ireturn, 1) := by decide +kernel
theorem dX12_late_13 : decode cX12_late 13 = .ok (.iconst 0, 1) := by decide +kernel
theorem dX12_late_14 : decode cX12_late 14 = .ok (.istore_n 2, 1) := by decide +kernel
theorem dX12_late_15 : decode cX12_late 15 = .ok (.iconst 0, 1) := by decide +kernel
theorem dX12_late_16 : decode cX12_late 16 = .ok (.istore_n 3, 1) := by decide +kernel
theorem dX12_late_17 : decode cX12_late 17 = .ok (.iload_n 3, 1) := by decide +kernel
theorem dX12_late_18 : decode cX12_late 18 = .ok (.aload_n 0, 1) := by decide +kernel
theorem dX12_late_19 : decode cX12_late 19 = .ok (.getfield 113, 3) := by decide +kernel
theorem dX12_late_22 : decode cX12_late 22 = .ok (.if_icmp .ge 60, 3) := by decide +kernel
theorem dX12_late_25 : decode cX12_late 25 = .ok (.aload_n 0, 1) := by decide +kernel
theorem dX12_late_26 : decode cX12_late 26 = .ok (.getfield 22, 3) := by decide +kernel
theorem dX12_late_29 : decode cX12_late 29 = .ok (.iload_n 3, 1) := by decide +kernel
theorem dX12_late_30 : decode cX12_late 30 = .ok (.iaload, 1) := by decide +kernel
theorem dX12_late_31 : decode cX12_late 31 = .ok (.iconst 4, 1) := by decide +kernel
theorem dX12_late_32 : decode cX12_late 32 = .ok (.if_icmp .eq 6, 3) := by decide +kernel
theorem dX12_late_35 : decode cX12_late 35 = .ok (.goto 41, 3) := by decide +kernel
theorem dX12_late_38 : decode cX12_late 38 = .ok (.aload_n 0, 1) := by decide +kernel
theorem dX12_late_39 : decode cX12_late 39 = .ok (.getfield 34, 3) := by decide +kernel
theorem dX12_late_42 : decode cX12_late 42 = .ok (.iload_n 3, 1) := by decide +kernel
theorem dX12_late_43 : decode cX12_late 43 = .ok (.baload, 1) := by decide +kernel
theorem dX12_late_44 : decode cX12_late 44 = .ok (.ifCond .eq 12, 3) := by decide +kernel
theorem dX12_late_47 : decode cX12_late 47 = .ok (.aload_n 0, 1) := by decide +kernel
theorem dX12_late_48 : decode cX12_late 48 = .ok (.getfield 41, 3) := by decide +kernel
theorem dX12_late_51 : decode cX12_late 51 = .ok (.iload_n 3, 1) := by decide +kernel
theorem dX12_late_52 : decode cX12_late 52 = .ok (.iaload, 1) := by decide +kernel
theorem dX12_late_53 : decode cX12_late 53 = .ok (.goto 4, 3) := by decide +kernel
theorem dX12_late_56 : decode cX12_late 56 = .ok (.iload_n 1, 1) := by decide +kernel
theorem dX12_late_57 : decode cX12_late 57 = .ok (.aload_n 0, 1) := by decide +kernel
theorem dX12_late_58 : decode cX12_late 58 = .ok (.getfield 28, 3) := by decide +kernel
theorem dX12_late_61 : decode cX12_late 61 = .ok (.iload_n 3, 1) := by decide +kernel
theorem dX12_late_62 : decode cX12_late 62 = .ok (.iaload, 1) := by decide +kernel
theorem dX12_late_63 : decode cX12_late 63 = .ok (.isub, 1) := by decide +kernel
theorem dX12_late_64 : decode cX12_late 64 = .ok (.istore 4, 2) := by decide +kernel
theorem dX12_late_66 : decode cX12_late 66 = .ok (.iload 4, 2) := by decide +kernel
theorem dX12_late_68 : decode cX12_late 68 = .ok (.ifCond .le 8, 3) := by decide +kernel
theorem dX12_late_71 : decode cX12_late 71 = .ok (.iload_n 2, 1) := by decide +kernel
theorem dX12_late_72 : decode cX12_late 72 = .ok (.iload 4, 2) := by decide +kernel
theorem dX12_late_74 : decode cX12_late 74 = .ok (.iadd, 1) := by decide +kernel
theorem dX12_late_75 : decode cX12_late 75 = .ok (.istore_n 2, 1) := by decide +kernel
theorem dX12_late_76 : decode cX12_late 76 = .ok (.iinc 3 1, 3) := by decide +kernel
theorem dX12_late_79 : decode cX12_late 79 = .ok (.goto (-62), 3) := by decide +kernel
theorem dX12_late_82 : decode cX12_late 82 = .ok (.iload_n 2, 1) := by decide +kernel
theorem dX12_late_83 : decode cX12_late 83 = .ok (.ireturn, 1) := by decide +kernel
theorem dX12_doneMany_0 : decode cX12_doneMany 0 = .ok (.iconst 0, 1) := by decide +kernel
theorem dX12_doneMany_1 : decode cX12_doneMany 1 = .ok (.istore_n 1, 1) := by decide +kernel
theorem dX12_doneMany_2 : decode cX12_doneMany 2 = .ok (.iconst 0, 1) := by decide +kernel
theorem dX12_doneMany_3 : decode cX12_doneMany 3 = .ok (.istore_n 2, 1) := by decide +kernel
theorem dX12_doneMany_4 : decode cX12_doneMany 4 = .ok (.iload_n 2, 1) := by decide +kernel
theorem dX12_doneMany_5 : decode cX12_doneMany 5 = .ok (.aload_n 0, 1) := by decide +kernel
theorem dX12_doneMany_6 : decode cX12_doneMany 6 = .ok (.getfield 113, 3) := by decide +kernel
theorem dX12_doneMany_9 : decode cX12_doneMany 9 = .ok (.if_icmp .ge 26, 3) := by decide +kernel
theorem dX12_doneMany_12 : decode cX12_doneMany 12 = .ok (.iload_n 1, 1) := by decide +kernel
theorem dX12_doneMany_13 : decode cX12_doneMany 13 = .ok (.aload_n 0, 1) := by decide +kernel
theorem dX12_doneMany_14 : decode cX12_doneMany 14 = .ok (.getfield 34, 3) := by decide +kernel
theorem dX12_doneMany_17 : decode cX12_doneMany 17 = .ok (.iload_n 2, 1) := by decide +kernel
theorem dX12_doneMany_18 : decode cX12_doneMany 18 = .ok (.baload, 1) := by decide +kernel
theorem dX12_doneMany_19 : decode cX12_doneMany 19 = .ok (.ifCond .eq 7, 3) := by decide +kernel
theorem dX12_doneMany_22 : decode cX12_doneMany 22 = .ok (.iconst 1, 1) := by decide +kernel
theorem dX12_doneMany_23 : decode cX12_doneMany 23 = .ok (.goto 4, 3) := by decide +kernel
theorem dX12_doneMany_26 : decode cX12_doneMany 26 = .ok (.iconst 0, 1) := by decide +kernel
theorem dX12_doneMany_27 : decode cX12_doneMany 27 = .ok (.iadd, 1) := by decide +kernel
theorem dX12_doneMany_28 : decode cX12_doneMany 28 = .ok (.istore_n 1, 1) := by decide +kernel
theorem dX12_doneMany_29 : decode cX12_doneMany 29 = .ok (.iinc 2 1, 3) := by decide +kernel
theorem dX12_doneMany_32 : decode cX12_doneMany 32 = .ok (.goto (-28), 3) := by decide +kernel
theorem dX12_doneMany_35 : decode cX12_doneMany 35 = .ok (.iload_n 1, 1) := by decide +kernel
theorem dX12_doneMany_36 : decode cX12_doneMany 36 = .ok (.ireturn, 1) := by decide +kernel
theorem dX12_image_0 : decode cX12_image 0 = .ok (.aload_n 0, 1) := by decide +kernel
theorem dX12_image_1 : decode cX12_image 1 = .ok (.iconst 1, 1) := by decide +kernel
theorem dX12_image_2 : decode cX12_image 2 = .ok (.putfield 307, 3) := by decide +kernel
theorem dX12_image_5 : decode cX12_image 5 = .ok (.aload_n 0, 1) := by decide +kernel
theorem dX12_image_6 : decode cX12_image 6 = .ok (.aload_n 0, 1) := by decide +kernel
theorem dX12_image_7 : decode cX12_image 7 = .ok (.getfield 106, 3) := by decide +kernel
theorem dX12_image_10 : decode cX12_image 10 = .ok (.putfield 311, 3) := by decide +kernel
theorem dX12_image_13 : decode cX12_image 13 = .ok (.aload_n 0, 1) := by decide +kernel
theorem dX12_image_14 : decode cX12_image 14 = .ok (.aload_n 0, 1) := by decide +kernel
theorem dX12_image_15 : decode cX12_image 15 = .ok (.getfield 113, 3) := by decide +kernel
theorem dX12_image_18 : decode cX12_image 18 = .ok (.putfield 314, 3) := by decide +kernel
theorem dX12_image_21 : decode cX12_image 21 = .ok (.aload_n 0, 1) := by decide +kernel
theorem dX12_image_22 : decode cX12_image 22 = .ok (.aload_n 0, 1) := by decide +kernel
theorem dX12_image_23 : decode cX12_image 23 = .ok (.getfield 229, 3) := by decide +kernel
theorem dX12_image_26 : decode cX12_image 26 = .ok (.putfield 317, 3) := by decide +kernel
theorem dX12_image_29 : decode cX12_image 29 = .ok (.iconst 0, 1) := by decide +kernel
theorem dX12_image_30 : decode cX12_image 30 = .ok (.istore_n 1, 1) := by decide +kernel
theorem dX12_image_31 : decode cX12_image 31 = .ok (.iload_n 1, 1) := by decide +kernel
theorem dX12_image_32 : decode cX12_image 32 = .ok (.bipush 6, 2) := by decide +kernel
theorem dX12_image_34 : decode cX12_image 34 = .ok (.if_icmp .ge 21, 3) := by decide +kernel
theorem dX12_image_37 : decode cX12_image 37 = .ok (.aload_n 0, 1) := by decide +kernel
theorem dX12_image_38 : decode cX12_image 38 = .ok (.getfield 76, 3) := by decide +kernel
theorem dX12_image_41 : decode cX12_image 41 = .ok (.iload_n 1, 1) := by decide +kernel
theorem dX12_image_42 : decode cX12_image 42 = .ok (.aload_n 0, 1) := by decide +kernel
theorem dX12_image_43 : decode cX12_image 43 = .ok (.getfield 7, 3) := by decide +kernel
theorem dX12_image_46 : decode cX12_image 46 = .ok (.iload_n 1, 1) := by decide +kernel
theorem dX12_image_47 : decode cX12_image 47 = .ok (.iaload, 1) := by decide +kernel
theorem dX12_image_48 : decode cX12_image 48 = .ok (.iastore, 1) := by decide +kernel
theorem dX12_image_49 : decode cX12_image 49 = .ok (.iinc 1 1, 3) := by decide +kernel
theorem dX12_image_52 : decode cX12_image 52 = .ok (.goto (-21), 3) := by decide +kernel
theorem dX12_image_55 : decode cX12_image 55 = .ok (.iconst 0, 1) := by decide +kernel
theorem dX12_image_56 : decode cX12_image 56 = .ok (.istore_n 1, 1) := by decide +kernel
theorem dX12_image_57 : decode cX12_image 57 = .ok (.iload_n 1, 1) := by decide +kernel
theorem dX12_image_58 : decode cX12_image 58 = .ok (.bipush 9, 2) := by decide +kernel
theorem dX12_image_60 : decode cX12_image 60 = .ok (.if_icmp .ge 21, 3) := by decide +kernel
theorem dX12_image_63 : decode cX12_image 63 = .ok (.aload_n 0, 1) := by decide +kernel
theorem dX12_image_64 : decode cX12_image 64 = .ok (.getfield 79, 3) := by decide +kernel
theorem dX12_image_67 : decode cX12_image 67 = .ok (.iload_n 1, 1) := by decide +kernel
theorem dX12_image_68 : decode cX12_image 68 = .ok (.aload_n 0, 1) := by decide +kernel
theorem dX12_image_69 : decode cX12_image 69 = .ok (.getfield 19, 3) := by decide +kernel
theorem dX12_image_72 : decode cX12_image 72 = .ok (.iload_n 1, 1) := by decide +kernel
theorem dX12_image_73 : decode cX12_image 73 = .ok (.iaload, 1) := by decide +kernel
theorem dX12_image_74 : decode cX12_image 74 = .ok (.iastore, 1) := by decide +kernel
theorem dX12_image_75 : decode cX12_image 75 = .ok (.iinc 1 1, 3) := by decide +kernel
theorem dX12_image_78 : decode cX12_image 78 = .ok (.goto (-21), 3) := by decide +kernel
theorem dX12_image_81 : decode cX12_image 81 = .ok (.iconst 0, 1) := by decide +kernel
theorem dX12_image_82 : decode cX12_image 82 = .ok (.istore_n 1, 1) := by decide +kernel
theorem dX12_image_83 : decode cX12_image 83 = .ok (.iload_n 1, 1) := by decide +kernel
theorem dX12_image_84 : decode cX12_image 84 = .ok (.bipush 8, 2) := by decide +kernel
theorem dX12_image_86 : decode cX12_image 86 = .ok (.if_icmp .ge 45, 3) := by decide +kernel
theorem dX12_image_89 : decode cX12_image 89 = .ok (.aload_n 0, 1) := by decide +kernel
theorem dX12_image_90 : decode cX12_image 90 = .ok (.getfield 82, 3) := by decide +kernel
theorem dX12_image_93 : decode cX12_image 93 = .ok (.iload_n 1, 1) := by decide +kernel
theorem dX12_image_94 : decode cX12_image 94 = .ok (.aload_n 0, 1) := by decide +kernel
theorem dX12_image_95 : decode cX12_image 95 = .ok (.getfield 34, 3) := by decide +kernel
theorem dX12_image_98 : decode cX12_image 98 = .ok (.iload_n 1, 1) := by decide +kernel
theorem dX12_image_99 : decode cX12_image 99 = .ok (.baload, 1) := by decide +kernel
theorem dX12_image_100 : decode cX12_image 100 = .ok (.bastore, 1) := by decide +kernel
theorem dX12_image_101 : decode cX12_image 101 = .ok (.aload_n 0, 1) := by decide +kernel
theorem dX12_image_102 : decode cX12_image 102 = .ok (.getfield 85, 3) := by decide +kernel
theorem dX12_image_105 : decode cX12_image 105 = .ok (.iload_n 1, 1) := by decide +kernel
theorem dX12_image_106 : decode cX12_image 106 = .ok (.aload_n 0, 1) := by decide +kernel
theorem dX12_image_107 : decode cX12_image 107 = .ok (.getfield 38, 3) := by decide +kernel
theorem dX12_image_110 : decode cX12_image 110 = .ok (.iload_n 1, 1) := by decide +kernel
theorem dX12_image_111 : decode cX12_image 111 = .ok (.iaload, 1) := by decide +kernel
theorem dX12_image_112 : decode cX12_image 112 = .ok (.iastore, 1) := by decide +kernel
theorem dX12_image_113 : decode cX12_image 113 = .ok (.aload_n 0, 1) := by decide +kernel
theorem dX12_image_114 : decode cX12_image 114 = .ok (.getfield 88, 3) := by decide +kernel
theorem dX12_image_117 : decode cX12_image 117 = .ok (.iload_n 1, 1) := by decide +kernel
theorem dX12_image_118 : decode cX12_image 118 = .ok (.aload_n 0, 1) := by decide +kernel
theorem dX12_image_119 : decode cX12_image 119 = .ok (.getfield 41, 3) := by decide +kernel
theorem dX12_image_122 : decode cX12_image 122 = .ok (.iload_n 1, 1) := by decide +kernel
theorem dX12_image_123 : decode cX12_image 123 = .ok (.iaload, 1) := by decide +kernel
theorem dX12_image_124 : decode cX12_image 124 = .ok (.iastore, 1) := by decide +kernel
theorem dX12_image_125 : decode cX12_image 125 = .ok (.iinc 1 1, 3) := by decide +kernel
theorem dX12_image_128 : decode cX12_image 128 = .ok (.goto (-45), 3) := by decide +kernel
theorem dX12_image_131 : decode cX12_image 131 = .ok (.aload_n 0, 1) := by decide +kernel
theorem dX12_image_132 : decode cX12_image 132 = .ok (.invokevirtual 320, 3) := by decide +kernel
theorem dX12_image_135 : decode cX12_image 135 = .ok (.ireturn, 1) := by decide +kernel
theorem dX12_back_0 : decode cX12_back 0 = .ok (.aload_n 0, 1) := by decide +kernel
theorem dX12_back_1 : decode cX12_back 1 = .ok (.getfield 307, 3) := by decide +kernel
theorem dX12_back_4 : decode cX12_back 4 = .ok (.ifCond .ne 6, 3) := by decide +kernel
theorem dX12_back_7 : decode cX12_back 7 = .ok (.bipush (-3), 2) := by decide +kernel
theorem dX12_back_9 : decode cX12_back 9 = .ok (.ireturn, 1) := by decide +kernel
theorem dX12_back_10 : decode cX12_back 10 = .ok (.aload_n 0, 1) := by decide +kernel
theorem dX12_back_11 : decode cX12_back 11 = .ok (.aload_n 0, 1) := by decide +kernel
theorem dX12_back_12 : decode cX12_back 12 = .ok (.getfield 317, 3) := by decide +kernel
theorem dX12_back_15 : decode cX12_back 15 = .ok (.putfield 229, 3) := by decide +kernel
theorem dX12_back_18 : decode cX12_back 18 = .ok (.iconst 0, 1) := by decide +kernel
theorem dX12_back_19 : decode cX12_back 19 = .ok (.istore_n 1, 1) := by decide +kernel
theorem dX12_back_20 : decode cX12_back 20 = .ok (.iload_n 1, 1) := by decide +kernel
theorem dX12_back_21 : decode cX12_back 21 = .ok (.aload_n 0, 1) := by decide +kernel
theorem dX12_back_22 : decode cX12_back 22 = .ok (.getfield 311, 3) := by decide +kernel
theorem dX12_back_25 : decode cX12_back 25 = .ok (.if_icmp .ge 21, 3) := by decide +kernel
theorem dX12_back_28 : decode cX12_back 28 = .ok (.aload_n 0, 1) := by decide +kernel
theorem dX12_back_29 : decode cX12_back 29 = .ok (.getfield 7, 3) := by decide +kernel
theorem dX12_back_32 : decode cX12_back 32 = .ok (.iload_n 1, 1) := by decide +kernel
theorem dX12_back_33 : decode cX12_back 33 = .ok (.aload_n 0, 1) := by decide +kernel
theorem dX12_back_34 : decode cX12_back 34 = .ok (.getfield 76, 3) := by decide +kernel
theorem dX12_back_37 : decode cX12_back 37 = .ok (.iload_n 1, 1) := by decide +kernel
theorem dX12_back_38 : decode cX12_back 38 = .ok (.iaload, 1) := by decide +kernel
theorem dX12_back_39 : decode cX12_back 39 = .ok (.iastore, 1) := by decide +kernel
theorem dX12_back_40 : decode cX12_back 40 = .ok (.iinc 1 1, 3) := by decide +kernel
theorem dX12_back_43 : decode cX12_back 43 = .ok (.goto (-23), 3) := by decide +kernel
theorem dX12_back_46 : decode cX12_back 46 = .ok (.iconst 0, 1) := by decide +kernel
theorem dX12_back_47 : decode cX12_back 47 = .ok (.istore_n 1, 1) := by decide +kernel
theorem dX12_back_48 : decode cX12_back 48 = .ok (.iload_n 1, 1) := by decide +kernel
theorem dX12_back_49 : decode cX12_back 49 = .ok (.bipush 9, 2) := by decide +kernel
theorem dX12_back_51 : decode cX12_back 51 = .ok (.if_icmp .ge 21, 3) := by decide +kernel
theorem dX12_back_54 : decode cX12_back 54 = .ok (.aload_n 0, 1) := by decide +kernel
theorem dX12_back_55 : decode cX12_back 55 = .ok (.getfield 19, 3) := by decide +kernel
theorem dX12_back_58 : decode cX12_back 58 = .ok (.iload_n 1, 1) := by decide +kernel
theorem dX12_back_59 : decode cX12_back 59 = .ok (.aload_n 0, 1) := by decide +kernel
theorem dX12_back_60 : decode cX12_back 60 = .ok (.getfield 79, 3) := by decide +kernel
theorem dX12_back_63 : decode cX12_back 63 = .ok (.iload_n 1, 1) := by decide +kernel
theorem dX12_back_64 : decode cX12_back 64 = .ok (.iaload, 1) := by decide +kernel
theorem dX12_back_65 : decode cX12_back 65 = .ok (.iastore, 1) := by decide +kernel
theorem dX12_back_66 : decode cX12_back 66 = .ok (.iinc 1 1, 3) := by decide +kernel
theorem dX12_back_69 : decode cX12_back 69 = .ok (.goto (-21), 3) := by decide +kernel
theorem dX12_back_72 : decode cX12_back 72 = .ok (.iconst 0, 1) := by decide +kernel
theorem dX12_back_73 : decode cX12_back 73 = .ok (.istore_n 1, 1) := by decide +kernel
theorem dX12_back_74 : decode cX12_back 74 = .ok (.iload_n 1, 1) := by decide +kernel
theorem dX12_back_75 : decode cX12_back 75 = .ok (.aload_n 0, 1) := by decide +kernel
theorem dX12_back_76 : decode cX12_back 76 = .ok (.getfield 314, 3) := by decide +kernel
theorem dX12_back_79 : decode cX12_back 79 = .ok (.if_icmp .ge 45, 3) := by decide +kernel
theorem dX12_back_82 : decode cX12_back 82 = .ok (.aload_n 0, 1) := by decide +kernel
theorem dX12_back_83 : decode cX12_back 83 = .ok (.getfield 34, 3) := by decide +kernel
theorem dX12_back_86 : decode cX12_back 86 = .ok (.iload_n 1, 1) := by decide +kernel
theorem dX12_back_87 : decode cX12_back 87 = .ok (.aload_n 0, 1) := by decide +kernel
theorem dX12_back_88 : decode cX12_back 88 = .ok (.getfield 82, 3) := by decide +kernel
theorem dX12_back_91 : decode cX12_back 91 = .ok (.iload_n 1, 1) := by decide +kernel
theorem dX12_back_92 : decode cX12_back 92 = .ok (.baload, 1) := by decide +kernel
theorem dX12_back_93 : decode cX12_back 93 = .ok (.bastore, 1) := by decide +kernel
theorem dX12_back_94 : decode cX12_back 94 = .ok (.aload_n 0, 1) := by decide +kernel
theorem dX12_back_95 : decode cX12_back 95 = .ok (.getfield 38, 3) := by decide +kernel
theorem dX12_back_98 : decode cX12_back 98 = .ok (.iload_n 1, 1) := by decide +kernel
theorem dX12_back_99 : decode cX12_back 99 = .ok (.aload_n 0, 1) := by decide +kernel
theorem dX12_back_100 : decode cX12_back 100 = .ok (.getfield 85, 3) := by decide +kernel
theorem dX12_back_103 : decode cX12_back 103 = .ok (.iload_n 1, 1) := by decide +kernel
theorem dX12_back_104 : decode cX12_back 104 = .ok (.iaload, 1) := by decide +kernel
theorem dX12_back_105 : decode cX12_back 105 = .ok (.iastore, 1) := by decide +kernel
theorem dX12_back_106 : decode cX12_back 106 = .ok (.aload_n 0, 1) := by decide +kernel
theorem dX12_back_107 : decode cX12_back 107 = .ok (.getfield 41, 3) := by decide +kernel
theorem dX12_back_110 : decode cX12_back 110 = .ok (.iload_n 1, 1) := by decide +kernel
theorem dX12_back_111 : decode cX12_back 111 = .ok (.aload_n 0, 1) := by decide +kernel
theorem dX12_back_112 : decode cX12_back 112 = .ok (.getfield 88, 3) := by decide +kernel
theorem dX12_back_115 : decode cX12_back 115 = .ok (.iload_n 1, 1) := by decide +kernel
theorem dX12_back_116 : decode cX12_back 116 = .ok (.iaload, 1) := by decide +kernel
theorem dX12_back_117 : decode cX12_back 117 = .ok (.iastore, 1) := by decide +kernel
theorem dX12_back_118 : decode cX12_back 118 = .ok (.iinc 1 1, 3) := by decide +kernel
theorem dX12_back_121 : decode cX12_back 121 = .ok (.goto (-47), 3) := by decide +kernel
theorem dX12_back_124 : decode cX12_back 124 = .ok (.aload_n 0, 1) := by decide +kernel
theorem dX12_back_125 : decode cX12_back 125 = .ok (.invokevirtual 320, 3) := by decide +kernel
theorem dX12_back_128 : decode cX12_back 128 = .ok (.ireturn, 1) := by decide +kernel
theorem dX12_count_0 : decode cX12_count 0 = .ok (.iconst 0, 1) := by decide +kernel
theorem dX12_count_1 : decode cX12_count 1 = .ok (.istore_n 2, 1) := by decide +kernel
theorem dX12_count_2 : decode cX12_count 2 = .ok (.iload_n 1, 1) := by decide +kernel
theorem dX12_count_3 : decode cX12_count 3 = .ok (.tableswitch 161 0 8 #[49, 54, 59, 64, 69, 74, 79, 84, 123], 49) := by decide +kernel
theorem dX12_count_52 : decode cX12_count 52 = .ok (.aload_n 0, 1) := by decide +kernel
theorem dX12_count_53 : decode cX12_count 53 = .ok (.getfield 106, 3) := by decide +kernel
theorem dX12_count_56 : decode cX12_count 56 = .ok (.ireturn, 1) := by decide +kernel
theorem dX12_count_57 : decode cX12_count 57 = .ok (.aload_n 0, 1) := by decide +kernel
theorem dX12_count_58 : decode cX12_count 58 = .ok (.getfield 113, 3) := by decide +kernel
theorem dX12_count_61 : decode cX12_count 61 = .ok (.ireturn, 1) := by decide +kernel
theorem dX12_count_62 : decode cX12_count 62 = .ok (.aload_n 0, 1) := by decide +kernel
theorem dX12_count_63 : decode cX12_count 63 = .ok (.invokevirtual 320, 3) := by decide +kernel
theorem dX12_count_66 : decode cX12_count 66 = .ok (.ireturn, 1) := by decide +kernel
theorem dX12_count_67 : decode cX12_count 67 = .ok (.aload_n 0, 1) := by decide +kernel
theorem dX12_count_68 : decode cX12_count 68 = .ok (.getfield 48, 3) := by decide +kernel
theorem dX12_count_71 : decode cX12_count 71 = .ok (.ireturn, 1) := by decide +kernel
theorem dX12_count_72 : decode cX12_count 72 = .ok (.aload_n 0, 1) := by decide +kernel
theorem dX12_count_73 : decode cX12_count 73 = .ok (.getfield 149, 3) := by decide +kernel
theorem dX12_count_76 : decode cX12_count 76 = .ok (.ireturn, 1) := by decide +kernel
theorem dX12_count_77 : decode cX12_count 77 = .ok (.aload_n 0, 1) := by decide +kernel
theorem dX12_count_78 : decode cX12_count 78 = .ok (.getfield 229, 3) := by decide +kernel
theorem dX12_count_81 : decode cX12_count 81 = .ok (.ireturn, 1) := by decide +kernel
theorem dX12_count_82 : decode cX12_count 82 = .ok (.aload_n 0, 1) := by decide +kernel
theorem dX12_count_83 : decode cX12_count 83 = .ok (.invokevirtual 304, 3) := by decide +kernel
theorem dX12_count_86 : decode cX12_count 86 = .ok (.ireturn, 1) := by decide +kernel
theorem dX12_count_87 : decode cX12_count 87 = .ok (.iconst 0, 1) := by decide +kernel
theorem dX12_count_88 : decode cX12_count 88 = .ok (.istore_n 3, 1) := by decide +kernel
theorem dX12_count_89 : decode cX12_count 89 = .ok (.iload_n 3, 1) := by decide +kernel
theorem dX12_count_90 : decode cX12_count 90 = .ok (.aload_n 0, 1) := by decide +kernel
theorem dX12_count_91 : decode cX12_count 91 = .ok (.getfield 113, 3) := by decide +kernel
theorem dX12_count_94 : decode cX12_count 94 = .ok (.if_icmp .ge 30, 3) := by decide +kernel
theorem dX12_count_97 : decode cX12_count 97 = .ok (.iload_n 2, 1) := by decide +kernel
theorem dX12_count_98 : decode cX12_count 98 = .ok (.aload_n 0, 1) := by decide +kernel
theorem dX12_count_99 : decode cX12_count 99 = .ok (.getfield 34, 3) := by decide +kernel
theorem dX12_count_102 : decode cX12_count 102 = .ok (.iload_n 3, 1) := by decide +kernel
theorem dX12_count_103 : decode cX12_count 103 = .ok (.baload, 1) := by decide +kernel
theorem dX12_count_104 : decode cX12_count 104 = .ok (.ifCond .eq 11, 3) := by decide +kernel
theorem dX12_count_107 : decode cX12_count 107 = .ok (.aload_n 0, 1) := by decide +kernel
theorem dX12_count_108 : decode cX12_count 108 = .ok (.iload_n 3, 1) := by decide +kernel
theorem dX12_count_109 : decode cX12_count 109 = .ok (.invokevirtual 143, 3) := by decide +kernel
theorem dX12_count_112 : decode cX12_count 112 = .ok (.goto 4, 3) := by decide +kernel
theorem dX12_count_115 : decode cX12_count 115 = .ok (.iconst 0, 1) := by decide +kernel
theorem dX12_count_116 : decode cX12_count 116 = .ok (.iadd, 1) := by decide +kernel
theorem dX12_count_117 : decode cX12_count 117 = .ok (.istore_n 2, 1) := by decide +kernel
theorem dX12_count_118 : decode cX12_count 118 = .ok (.iinc 3 1, 3) := by decide +kernel
theorem dX12_count_121 : decode cX12_count 121 = .ok (.goto (-32), 3) := by decide +kernel
theorem dX12_count_124 : decode cX12_count 124 = .ok (.iload_n 2, 1) := by decide +kernel
theorem dX12_count_125 : decode cX12_count 125 = .ok (.ireturn, 1) := by decide +kernel
theorem dX12_count_126 : decode cX12_count 126 = .ok (.iconst 0, 1) := by decide +kernel
theorem dX12_count_127 : decode cX12_count 127 = .ok (.istore_n 3, 1) := by decide +kernel
theorem dX12_count_128 : decode cX12_count 128 = .ok (.iload_n 3, 1) := by decide +kernel
theorem dX12_count_129 : decode cX12_count 129 = .ok (.aload_n 0, 1) := by decide +kernel
theorem dX12_count_130 : decode cX12_count 130 = .ok (.getfield 106, 3) := by decide +kernel
theorem dX12_count_133 : decode cX12_count 133 = .ok (.if_icmp .ge 29, 3) := by decide +kernel
theorem dX12_count_136 : decode cX12_count 136 = .ok (.aload_n 0, 1) := by decide +kernel
theorem dX12_count_137 : decode cX12_count 137 = .ok (.getfield 7, 3) := by decide +kernel
theorem dX12_count_140 : decode cX12_count 140 = .ok (.iload_n 3, 1) := by decide +kernel
theorem dX12_count_141 : decode cX12_count 141 = .ok (.iaload, 1) := by decide +kernel
theorem dX12_count_142 : decode cX12_count 142 = .ok (.iconst 1, 1) := by decide +kernel
theorem dX12_count_143 : decode cX12_count 143 = .ok (.iconst 2, 1) := by decide +kernel
theorem dX12_count_144 : decode cX12_count 144 = .ok (.invokestatic 109, 3) := by decide +kernel
theorem dX12_count_147 : decode cX12_count 147 = .ok (.ifCond .eq 9, 3) := by decide +kernel
theorem dX12_count_150 : decode cX12_count 150 = .ok (.iload_n 2, 1) := by decide +kernel
theorem dX12_count_151 : decode cX12_count 151 = .ok (.iconst 1, 1) := by decide +kernel
theorem dX12_count_152 : decode cX12_count 152 = .ok (.iload_n 3, 1) := by decide +kernel
theorem dX12_count_153 : decode cX12_count 153 = .ok (.ishl, 1) := by decide +kernel
theorem dX12_count_154 : decode cX12_count 154 = .ok (.ior, 1) := by decide +kernel
theorem dX12_count_155 : decode cX12_count 155 = .ok (.istore_n 2, 1) := by decide +kernel
theorem dX12_count_156 : decode cX12_count 156 = .ok (.iinc 3 1, 3) := by decide +kernel
theorem dX12_count_159 : decode cX12_count 159 = .ok (.goto (-31), 3) := by decide +kernel
theorem dX12_count_162 : decode cX12_count 162 = .ok (.iload_n 2, 1) := by decide +kernel
theorem dX12_count_163 : decode cX12_count 163 = .ok (.ireturn, 1) := by decide +kernel
theorem dX12_count_164 : decode cX12_count 164 = .ok (.bipush (-2), 2) := by decide +kernel
theorem dX12_count_166 : decode cX12_count 166 = .ok (.ireturn, 1) := by decide +kernel
theorem dX12_isSheet_0 : decode cX12_isSheet 0 = .ok (.iload_n 0, 1) := by decide +kernel
theorem dX12_isSheet_1 : decode cX12_isSheet 1 = .ok (.iconst 0, 1) := by decide +kernel
theorem dX12_isSheet_2 : decode cX12_isSheet 2 = .ok (.iconst 3, 1) := by decide +kernel
theorem dX12_isSheet_3 : decode cX12_isSheet 3 = .ok (.invokestatic 109, 3) := by decide +kernel
theorem dX12_isSheet_6 : decode cX12_isSheet 6 = .ok (.ireturn, 1) := by decide +kernel
theorem dX12_sheet_0 : decode cX12_sheet 0 = .ok (.iload_n 1, 1) := by decide +kernel
theorem dX12_sheet_1 : decode cX12_sheet 1 = .ok (.invokestatic 323, 3) := by decide +kernel
theorem dX12_sheet_4 : decode cX12_sheet 4 = .ok (.ifCond .eq 12, 3) := by decide +kernel
theorem dX12_sheet_7 : decode cX12_sheet 7 = .ok (.iload_n 2, 1) := by decide +kernel
theorem dX12_sheet_8 : decode cX12_sheet 8 = .ok (.iconst (-1), 1) := by decide +kernel
theorem dX12_sheet_9 : decode cX12_sheet 9 = .ok (.iconst 2, 1) := by decide +kernel
theorem dX12_sheet_10 : decode cX12_sheet 10 = .ok (.invokestatic 109, 3) := by decide +kernel
theorem dX12_sheet_13 : decode cX12_sheet 13 = .ok (.ifCond .ne 6, 3) := by decide +kernel
theorem dX12_sheet_16 : decode cX12_sheet 16 = .ok (.bipush (-2), 2) := by decide +kernel
theorem dX12_sheet_18 : decode cX12_sheet 18 = .ok (.ireturn, 1) := by decide +kernel
theorem dX12_sheet_19 : decode cX12_sheet 19 = .ok (.iload_n 2, 1) := by decide +kernel
theorem dX12_sheet_20 : decode cX12_sheet 20 = .ok (.iconst (-1), 1) := by decide +kernel
theorem dX12_sheet_21 : decode cX12_sheet 21 = .ok (.if_icmp .ne 12, 3) := by decide +kernel
theorem dX12_sheet_24 : decode cX12_sheet 24 = .ok (.aload_n 0, 1) := by decide +kernel
theorem dX12_sheet_25 : decode cX12_sheet 25 = .ok (.getfield 91, 3) := by decide +kernel
theorem dX12_sheet_28 : decode cX12_sheet 28 = .ok (.iload_n 1, 1) := by decide +kernel
theorem dX12_sheet_29 : decode cX12_sheet 29 = .ok (.iconst (-1), 1) := by decide +kernel
theorem dX12_sheet_30 : decode cX12_sheet 30 = .ok (.iastore, 1) := by decide +kernel
theorem dX12_sheet_31 : decode cX12_sheet 31 = .ok (.iconst 1, 1) := by decide +kernel
theorem dX12_sheet_32 : decode cX12_sheet 32 = .ok (.ireturn, 1) := by decide +kernel
theorem dX12_sheet_33 : decode cX12_sheet 33 = .ok (.iload_n 3, 1) := by decide +kernel
theorem dX12_sheet_34 : decode cX12_sheet 34 = .ok (.bipush 40, 2) := by decide +kernel
theorem dX12_sheet_36 : decode cX12_sheet 36 = .ok (.if_icmp .le 6, 3) := by decide +kernel
theorem dX12_sheet_39 : decode cX12_sheet 39 = .ok (.bipush (-2), 2) := by decide +kernel
theorem dX12_sheet_41 : decode cX12_sheet 41 = .ok (.ireturn, 1) := by decide +kernel
theorem dX12_sheet_42 : decode cX12_sheet 42 = .ok (.iload_n 3, 1) := by decide +kernel
theorem dX12_sheet_43 : decode cX12_sheet 43 = .ok (.ifCond .ge 6, 3) := by decide +kernel
theorem dX12_sheet_46 : decode cX12_sheet 46 = .ok (.bipush (-14), 2) := by decide +kernel
theorem dX12_sheet_48 : decode cX12_sheet 48 = .ok (.ireturn, 1) := by decide +kernel
theorem dX12_sheet_49 : decode cX12_sheet 49 = .ok (.aload_n 0, 1) := by decide +kernel
theorem dX12_sheet_50 : decode cX12_sheet 50 = .ok (.getfield 91, 3) := by decide +kernel
theorem dX12_sheet_53 : decode cX12_sheet 53 = .ok (.iload_n 1, 1) := by decide +kernel
theorem dX12_sheet_54 : decode cX12_sheet 54 = .ok (.iload_n 2, 1) := by decide +kernel
theorem dX12_sheet_55 : decode cX12_sheet 55 = .ok (.iastore, 1) := by decide +kernel
theorem dX12_sheet_56 : decode cX12_sheet 56 = .ok (.aload_n 0, 1) := by decide +kernel
theorem dX12_sheet_57 : decode cX12_sheet 57 = .ok (.getfield 94, 3) := by decide +kernel
theorem dX12_sheet_60 : decode cX12_sheet 60 = .ok (.iload_n 1, 1) := by decide +kernel
theorem dX12_sheet_61 : decode cX12_sheet 61 = .ok (.iload_n 3, 1) := by decide +kernel
theorem dX12_sheet_62 : decode cX12_sheet 62 = .ok (.iastore, 1) := by decide +kernel
theorem dX12_sheet_63 : decode cX12_sheet 63 = .ok (.iconst 0, 1) := by decide +kernel
theorem dX12_sheet_64 : decode cX12_sheet 64 = .ok (.istore 4, 2) := by decide +kernel
theorem dX12_sheet_66 : decode cX12_sheet 66 = .ok (.iload 4, 2) := by decide +kernel
theorem dX12_sheet_68 : decode cX12_sheet 68 = .ok (.iload_n 3, 1) := by decide +kernel
theorem dX12_sheet_69 : decode cX12_sheet 69 = .ok (.if_icmp .ge 22, 3) := by decide +kernel
theorem dX12_sheet_72 : decode cX12_sheet 72 = .ok (.aload_n 0, 1) := by decide +kernel
theorem dX12_sheet_73 : decode cX12_sheet 73 = .ok (.getfield 97, 3) := by decide +kernel
theorem dX12_sheet_76 : decode cX12_sheet 76 = .ok (.bipush 40, 2) := by decide +kernel
theorem dX12_sheet_78 : decode cX12_sheet 78 = .ok (.iload_n 1, 1) := by decide +kernel
theorem dX12_sheet_79 : decode cX12_sheet 79 = .ok (.imul, 1) := by decide +kernel
theorem dX12_sheet_80 : decode cX12_sheet 80 = .ok (.iload 4, 2) := by decide +kernel
theorem dX12_sheet_82 : decode cX12_sheet 82 = .ok (.iadd, 1) := by decide +kernel
theorem dX12_sheet_83 : decode cX12_sheet 83 = .ok (.iconst 0, 1) := by decide +kernel
theorem dX12_sheet_84 : decode cX12_sheet 84 = .ok (.iastore, 1) := by decide +kernel
theorem dX12_sheet_85 : decode cX12_sheet 85 = .ok (.iinc 4 1, 3) := by decide +kernel
theorem dX12_sheet_88 : decode cX12_sheet 88 = .ok (.goto (-22), 3) := by decide +kernel
theorem dX12_sheet_91 : decode cX12_sheet 91 = .ok (.iconst 1, 1) := by decide +kernel
theorem dX12_sheet_92 : decode cX12_sheet 92 = .ok (.ireturn, 1) := by decide +kernel
theorem dX12_cell_0 : decode cX12_cell 0 = .ok (.iload_n 1, 1) := by decide +kernel
theorem dX12_cell_1 : decode cX12_cell 1 = .ok (.invokestatic 323, 3) := by decide +kernel
theorem dX12_cell_4 : decode cX12_cell 4 = .ok (.ifCond .ne 6, 3) := by decide +kernel
theorem dX12_cell_7 : decode cX12_cell 7 = .ok (.bipush (-2), 2) := by decide +kernel
theorem dX12_cell_9 : decode cX12_cell 9 = .ok (.ireturn, 1) := by decide +kernel
theorem dX12_cell_10 : decode cX12_cell 10 = .ok (.aload_n 0, 1) := by decide +kernel
theorem dX12_cell_11 : decode cX12_cell 11 = .ok (.getfield 91, 3) := by decide +kernel
theorem dX12_cell_14 : decode cX12_cell 14 = .ok (.iload_n 1, 1) := by decide +kernel
theorem dX12_cell_15 : decode cX12_cell 15 = .ok (.iaload, 1) := by decide +kernel
theorem dX12_cell_16 : decode cX12_cell 16 = .ok (.ifCond .ge 6, 3) := by decide +kernel
theorem dX12_cell_19 : decode cX12_cell 19 = .ok (.bipush (-11), 2) := by decide +kernel
theorem dX12_cell_21 : decode cX12_cell 21 = .ok (.ireturn, 1) := by decide +kernel
theorem dX12_cell_22 : decode cX12_cell 22 = .ok (.iload_n 2, 1) := by decide +kernel
theorem dX12_cell_23 : decode cX12_cell 23 = .ok (.iconst 0, 1) := by decide +kernel
theorem dX12_cell_24 : decode cX12_cell 24 = .ok (.aload_n 0, 1) := by decide +kernel
theorem dX12_cell_25 : decode cX12_cell 25 = .ok (.getfield 94, 3) := by decide +kernel
theorem dX12_cell_28 : decode cX12_cell 28 = .ok (.iload_n 1, 1) := by decide +kernel
theorem dX12_cell_29 : decode cX12_cell 29 = .ok (.iaload, 1) := by decide +kernel
theorem dX12_cell_30 : decode cX12_cell 30 = .ok (.iconst 1, 1) := by decide +kernel
theorem dX12_cell_31 : decode cX12_cell 31 = .ok (.isub, 1) := by decide +kernel
theorem dX12_cell_32 : decode cX12_cell 32 = .ok (.invokestatic 109, 3) := by decide +kernel
theorem dX12_cell_35 : decode cX12_cell 35 = .ok (.ifCond .ne 6, 3) := by decide +kernel
theorem dX12_cell_38 : decode cX12_cell 38 = .ok (.bipush (-12), 2) := by decide +kernel
theorem dX12_cell_40 : decode cX12_cell 40 = .ok (.ireturn, 1) := by decide +kernel
theorem dX12_cell_41 : decode cX12_cell 41 = .ok (.aload_n 0, 1) := by decide +kernel
theorem dX12_cell_42 : decode cX12_cell 42 = .ok (.getfield 97, 3) := by decide +kernel
theorem dX12_cell_45 : decode cX12_cell 45 = .ok (.bipush 40, 2) := by decide +kernel
theorem dX12_cell_47 : decode cX12_cell 47 = .ok (.iload_n 1, 1) := by decide +kernel
theorem dX12_cell_48 : decode cX12_cell 48 = .ok (.imul, 1) := by decide +kernel
theorem dX12_cell_49 : decode cX12_cell 49 = .ok (.iload_n 2, 1) := by decide +kernel
theorem dX12_cell_50 : decode cX12_cell 50 = .ok (.iadd, 1) := by decide +kernel
theorem dX12_cell_51 : decode cX12_cell 51 = .ok (.aload_n 0, 1) := by decide +kernel
theorem dX12_cell_52 : decode cX12_cell 52 = .ok (.getfield 91, 3) := by decide +kernel
theorem dX12_cell_55 : decode cX12_cell 55 = .ok (.iload_n 1, 1) := by decide +kernel
theorem dX12_cell_56 : decode cX12_cell 56 = .ok (.iaload, 1) := by decide +kernel
theorem dX12_cell_57 : decode cX12_cell 57 = .ok (.ifCond .ne 8, 3) := by decide +kernel
theorem dX12_cell_60 : decode cX12_cell 60 = .ok (.iload_n 3, 1) := by decide +kernel
theorem dX12_cell_61 : decode cX12_cell 61 = .ok (.i2b, 1) := by decide +kernel
theorem dX12_cell_62 : decode cX12_cell 62 = .ok (.goto 19, 3) := by decide +kernel
theorem dX12_cell_65 : decode cX12_cell 65 = .ok (.aload_n 0, 1) := by decide +kernel
theorem dX12_cell_66 : decode cX12_cell 66 = .ok (.getfield 91, 3) := by decide +kernel
theorem dX12_cell_69 : decode cX12_cell 69 = .ok (.iload_n 1, 1) := by decide +kernel
theorem dX12_cell_70 : decode cX12_cell 70 = .ok (.iaload, 1) := by decide +kernel
theorem dX12_cell_71 : decode cX12_cell 71 = .ok (.iconst 1, 1) := by decide +kernel
theorem dX12_cell_72 : decode cX12_cell 72 = .ok (.if_icmp .ne 8, 3) := by decide +kernel
theorem dX12_cell_75 : decode cX12_cell 75 = .ok (.iload_n 3, 1) := by decide +kernel
theorem dX12_cell_76 : decode cX12_cell 76 = .ok (.i2s, 1) := by decide +kernel
theorem dX12_cell_77 : decode cX12_cell 77 = .ok (.goto 4, 3) := by decide +kernel
theorem dX12_cell_80 : decode cX12_cell 80 = .ok (.iload_n 3, 1) := by decide +kernel
theorem dX12_cell_81 : decode cX12_cell 81 = .ok (.iastore, 1) := by decide +kernel
theorem dX12_cell_82 : decode cX12_cell 82 = .ok (.iconst 1, 1) := by decide +kernel
theorem dX12_cell_83 : decode cX12_cell 83 = .ok (.ireturn, 1) := by decide +kernel
theorem dX12_copy_0 : decode cX12_copy 0 = .ok (.iload_n 1, 1) := by decide +kernel
theorem dX12_copy_1 : decode cX12_copy 1 = .ok (.invokestatic 323, 3) := by decide +kernel
theorem dX12_copy_4 : decode cX12_copy 4 = .ok (.ifCond .eq 10, 3) := by decide +kernel
theorem dX12_copy_7 : decode cX12_copy 7 = .ok (.iload_n 3, 1) := by decide +kernel
theorem dX12_copy_8 : decode cX12_copy 8 = .ok (.invokestatic 323, 3) := by decide +kernel
theorem dX12_copy_11 : decode cX12_copy 11 = .ok (.ifCond .ne 6, 3) := by decide +kernel
theorem dX12_copy_14 : decode cX12_copy 14 = .ok (.bipush (-2), 2) := by decide +kernel
theorem dX12_copy_16 : decode cX12_copy 16 = .ok (.ireturn, 1) := by decide +kernel
theorem dX12_copy_17 : decode cX12_copy 17 = .ok (.aload_n 0, 1) := by decide +kernel
theorem dX12_copy_18 : decode cX12_copy 18 = .ok (.getfield 91, 3) := by decide +kernel
theorem dX12_copy_21 : decode cX12_copy 21 = .ok (.iload_n 1, 1) := by decide +kernel
theorem dX12_copy_22 : decode cX12_copy 22 = .ok (.iaload, 1) := by decide +kernel
theorem dX12_copy_23 : decode cX12_copy 23 = .ok (.ifCond .lt 12, 3) := by decide +kernel
theorem dX12_copy_26 : decode cX12_copy 26 = .ok (.aload_n 0, 1) := by decide +kernel
theorem dX12_copy_27 : decode cX12_copy 27 = .ok (.getfield 91, 3) := by decide +kernel
theorem dX12_copy_30 : decode cX12_copy 30 = .ok (.iload_n 3, 1) := by decide +kernel
theorem dX12_copy_31 : decode cX12_copy 31 = .ok (.iaload, 1) := by decide +kernel
theorem dX12_copy_32 : decode cX12_copy 32 = .ok (.ifCond .ge 6, 3) := by decide +kernel
theorem dX12_copy_35 : decode cX12_copy 35 = .ok (.bipush (-11), 2) := by decide +kernel
theorem dX12_copy_37 : decode cX12_copy 37 = .ok (.ireturn, 1) := by decide +kernel
theorem dX12_copy_38 : decode cX12_copy 38 = .ok (.aload_n 0, 1) := by decide +kernel
theorem dX12_copy_39 : decode cX12_copy 39 = .ok (.getfield 91, 3) := by decide +kernel
theorem dX12_copy_42 : decode cX12_copy 42 = .ok (.iload_n 1, 1) := by decide +kernel
theorem dX12_copy_43 : decode cX12_copy 43 = .ok (.iaload, 1) := by decide +kernel
theorem dX12_copy_44 : decode cX12_copy 44 = .ok (.aload_n 0, 1) := by decide +kernel
theorem dX12_copy_45 : decode cX12_copy 45 = .ok (.getfield 91, 3) := by decide +kernel
theorem dX12_copy_48 : decode cX12_copy 48 = .ok (.iload_n 3, 1) := by decide +kernel
theorem dX12_copy_49 : decode cX12_copy 49 = .ok (.iaload, 1) := by decide +kernel
theorem dX12_copy_50 : decode cX12_copy 50 = .ok (.if_icmp .eq 6, 3) := by decide +kernel
theorem dX12_copy_53 : decode cX12_copy 53 = .ok (.bipush (-13), 2) := by decide +kernel
theorem dX12_copy_55 : decode cX12_copy 55 = .ok (.ireturn, 1) := by decide +kernel
theorem dX12_copy_56 : decode cX12_copy 56 = .ok (.iload 5, 2) := by decide +kernel
theorem dX12_copy_58 : decode cX12_copy 58 = .ok (.ifCond .lt 47, 3) := by decide +kernel
theorem dX12_copy_61 : decode cX12_copy 61 = .ok (.iload_n 2, 1) := by decide +kernel
theorem dX12_copy_62 : decode cX12_copy 62 = .ok (.ifCond .lt 43, 3) := by decide +kernel
theorem dX12_copy_65 : decode cX12_copy 65 = .ok (.iload 4, 2) := by decide +kernel
theorem dX12_copy_67 : decode cX12_copy 67 = .ok (.ifCond .lt 38, 3) := by decide +kernel
theorem dX12_copy_70 : decode cX12_copy 70 = .ok (.iload_n 2, 1) := by decide +kernel
theorem dX12_copy_71 : decode cX12_copy 71 = .ok (.i2l, 1) := by decide +kernel
theorem dX12_copy_72 : decode cX12_copy 72 = .ok (.iload 5, 2) := by decide +kernel
theorem dX12_copy_74 : decode cX12_copy 74 = .ok (.i2l, 1) := by decide +kernel
theorem dX12_copy_75 : decode cX12_copy 75 = .ok (.ladd, 1) := by decide +kernel
theorem dX12_copy_76 : decode cX12_copy 76 = .ok (.aload_n 0, 1) := by decide +kernel
theorem dX12_copy_77 : decode cX12_copy 77 = .ok (.getfield 94, 3) := by decide +kernel
theorem dX12_copy_80 : decode cX12_copy 80 = .ok (.iload_n 1, 1) := by decide +kernel
theorem dX12_copy_81 : decode cX12_copy 81 = .ok (.iaload, 1) := by decide +kernel
theorem dX12_copy_82 : decode cX12_copy 82 = .ok (.i2l, 1) := by decide +kernel
theorem dX12_copy_83 : decode cX12_copy 83 = .ok (.lcmp, 1) := by decide +kernel
theorem dX12_copy_84 : decode cX12_copy 84 = .ok (.ifCond .gt 21, 3) := by decide +kernel
theorem dX12_copy_87 : decode cX12_copy 87 = .ok (.iload 4, 2) := by decide +kernel
theorem dX12_copy_89 : decode cX12_copy 89 = .ok (.i2l, 1) := by decide +kernel
theorem dX12_copy_90 : decode cX12_copy 90 = .ok (.iload 5, 2) := by decide +kernel
theorem dX12_copy_92 : decode cX12_copy 92 = .ok (.i2l, 1) := by decide +kernel
theorem dX12_copy_93 : decode cX12_copy 93 = .ok (.ladd, 1) := by decide +kernel
theorem dX12_copy_94 : decode cX12_copy 94 = .ok (.aload_n 0, 1) := by decide +kernel
theorem dX12_copy_95 : decode cX12_copy 95 = .ok (.getfield 94, 3) := by decide +kernel
theorem dX12_copy_98 : decode cX12_copy 98 = .ok (.iload_n 3, 1) := by decide +kernel
theorem dX12_copy_99 : decode cX12_copy 99 = .ok (.iaload, 1) := by decide +kernel
theorem dX12_copy_100 : decode cX12_copy 100 = .ok (.i2l, 1) := by decide +kernel
theorem dX12_copy_101 : decode cX12_copy 101 = .ok (.lcmp, 1) := by decide +kernel
theorem dX12_copy_102 : decode cX12_copy 102 = .ok (.ifCond .le 6, 3) := by decide +kernel
theorem dX12_copy_105 : decode cX12_copy 105 = .ok (.bipush (-12), 2) := by decide +kernel
theorem dX12_copy_107 : decode cX12_copy 107 = .ok (.ireturn, 1) := by decide +kernel
theorem dX12_copy_108 : decode cX12_copy 108 = .ok (.iconst 0, 1) := by decide +kernel
theorem dX12_copy_109 : decode cX12_copy 109 = .ok (.istore 6, 2) := by decide +kernel
theorem dX12_copy_111 : decode cX12_copy 111 = .ok (.iload 6, 2) := by decide +kernel
theorem dX12_copy_113 : decode cX12_copy 113 = .ok (.iload 5, 2) := by decide +kernel
theorem dX12_copy_115 : decode cX12_copy 115 = .ok (.if_icmp .ge 30, 3) := by decide +kernel
theorem dX12_copy_118 : decode cX12_copy 118 = .ok (.aload_n 0, 1) := by decide +kernel
theorem dX12_copy_119 : decode cX12_copy 119 = .ok (.getfield 100, 3) := by decide +kernel
theorem dX12_copy_122 : decode cX12_copy 122 = .ok (.iload 6, 2) := by decide +kernel
theorem dX12_copy_124 : decode cX12_copy 124 = .ok (.aload_n 0, 1) := by decide +kernel
theorem dX12_copy_125 : decode cX12_copy 125 = .ok (.getfield 97, 3) := by decide +kernel
theorem dX12_copy_128 : decode cX12_copy 128 = .ok (.bipush 40, 2) := by decide +kernel
theorem dX12_copy_130 : decode cX12_copy 130 = .ok (.iload_n 1, 1) := by decide +kernel
theorem dX12_copy_131 : decode cX12_copy 131 = .ok (.imul, 1) := by decide +kernel
theorem dX12_copy_132 : decode cX12_copy 132 = .ok (.iload_n 2, 1) := by decide +kernel
theorem dX12_copy_133 : decode cX12_copy 133 = .ok (.iadd, 1) := by decide +kernel
theorem dX12_copy_134 : decode cX12_copy 134 = .ok (.iload 6, 2) := by decide +kernel
theorem dX12_copy_136 : decode cX12_copy 136 = .ok (.iadd, 1) := by decide +kernel
theorem dX12_copy_137 : decode cX12_copy 137 = .ok (.iaload, 1) := by decide +kernel
theorem dX12_copy_138 : decode cX12_copy 138 = .ok (.iastore, 1) := by decide +kernel
theorem dX12_copy_139 : decode cX12_copy 139 = .ok (.iinc 6 1, 3) := by decide +kernel
theorem dX12_copy_142 : decode cX12_copy 142 = .ok (.goto (-31), 3) := by decide +kernel
theorem dX12_copy_145 : decode cX12_copy 145 = .ok (.iconst 0, 1) := by decide +kernel
theorem dX12_copy_146 : decode cX12_copy 146 = .ok (.istore 6, 2) := by decide +kernel
theorem dX12_copy_148 : decode cX12_copy 148 = .ok (.iload 6, 2) := by decide +kernel
theorem dX12_copy_150 : decode cX12_copy 150 = .ok (.iload 5, 2) := by decide +kernel
theorem dX12_copy_152 : decode cX12_copy 152 = .ok (.if_icmp .ge 31, 3) := by decide +kernel
theorem dX12_copy_155 : decode cX12_copy 155 = .ok (.aload_n 0, 1) := by decide +kernel
theorem dX12_copy_156 : decode cX12_copy 156 = .ok (.getfield 97, 3) := by decide +kernel
theorem dX12_copy_159 : decode cX12_copy 159 = .ok (.bipush 40, 2) := by decide +kernel
theorem dX12_copy_161 : decode cX12_copy 161 = .ok (.iload_n 3, 1) := by decide +kernel
theorem dX12_copy_162 : decode cX12_copy 162 = .ok (.imul, 1) := by decide +kernel
theorem dX12_copy_163 : decode cX12_copy 163 = .ok (.iload 4, 2) := by decide +kernel
theorem dX12_copy_165 : decode cX12_copy 165 = .ok (.iadd, 1) := by decide +kernel
theorem dX12_copy_166 : decode cX12_copy 166 = .ok (.iload 6, 2) := by decide +kernel
theorem dX12_copy_168 : decode cX12_copy 168 = .ok (.iadd, 1) := by decide +kernel
theorem dX12_copy_169 : decode cX12_copy 169 = .ok (.aload_n 0, 1) := by decide +kernel
theorem dX12_copy_170 : decode cX12_copy 170 = .ok (.getfield 100, 3) := by decide +kernel
theorem dX12_copy_173 : decode cX12_copy 173 = .ok (.iload 6, 2) := by decide +kernel
theorem dX12_copy_175 : decode cX12_copy 175 = .ok (.iaload, 1) := by decide +kernel
theorem dX12_copy_176 : decode cX12_copy 176 = .ok (.iastore, 1) := by decide +kernel
theorem dX12_copy_177 : decode cX12_copy 177 = .ok (.iinc 6 1, 3) := by decide +kernel
theorem dX12_copy_180 : decode cX12_copy 180 = .ok (.goto (-32), 3) := by decide +kernel
theorem dX12_copy_183 : decode cX12_copy 183 = .ok (.iload 5, 2) := by decide +kernel
theorem dX12_copy_185 : decode cX12_copy 185 = .ok (.ireturn, 1) := by decide +kernel
theorem dX12_hanks_0 : decode cX12_hanks 0 = .ok (.iload_n 1, 1) := by decide +kernel
theorem dX12_hanks_1 : decode cX12_hanks 1 = .ok (.invokestatic 323, 3) := by decide +kernel
theorem dX12_hanks_4 : decode cX12_hanks 4 = .ok (.ifCond .eq 23, 3) := by decide +kernel
theorem dX12_hanks_7 : decode cX12_hanks 7 = .ok (.iload_n 2, 1) := by decide +kernel
theorem dX12_hanks_8 : decode cX12_hanks 8 = .ok (.iconst 0, 1) := by decide +kernel
theorem dX12_hanks_9 : decode cX12_hanks 9 = .ok (.iconst 2, 1) := by decide +kernel
theorem dX12_hanks_10 : decode cX12_hanks 10 = .ok (.invokestatic 109, 3) := by decide +kernel
theorem dX12_hanks_13 : decode cX12_hanks 13 = .ok (.ifCond .eq 14, 3) := by decide +kernel
theorem dX12_hanks_16 : decode cX12_hanks 16 = .ok (.iload 4, 2) := by decide +kernel
theorem dX12_hanks_18 : decode cX12_hanks 18 = .ok (.iconst 0, 1) := by decide +kernel
theorem dX12_hanks_19 : decode cX12_hanks 19 = .ok (.bipush 12, 2) := by decide +kernel
theorem dX12_hanks_21 : decode cX12_hanks 21 = .ok (.invokestatic 109, 3) := by decide +kernel
theorem dX12_hanks_24 : decode cX12_hanks 24 = .ok (.ifCond .ne 6, 3) := by decide +kernel
theorem dX12_hanks_27 : decode cX12_hanks 27 = .ok (.bipush (-2), 2) := by decide +kernel
theorem dX12_hanks_29 : decode cX12_hanks 29 = .ok (.ireturn, 1) := by decide +kernel
theorem dX12_hanks_30 : decode cX12_hanks 30 = .ok (.aload_n 0, 1) := by decide +kernel
theorem dX12_hanks_31 : decode cX12_hanks 31 = .ok (.getfield 91, 3) := by decide +kernel
theorem dX12_hanks_34 : decode cX12_hanks 34 = .ok (.iload_n 1, 1) := by decide +kernel
theorem dX12_hanks_35 : decode cX12_hanks 35 = .ok (.iaload, 1) := by decide +kernel
theorem dX12_hanks_36 : decode cX12_hanks 36 = .ok (.ifCond .lt 16, 3) := by decide +kernel
theorem dX12_hanks_39 : decode cX12_hanks 39 = .ok (.aload_n 0, 1) := by decide +kernel
theorem dX12_hanks_40 : decode cX12_hanks 40 = .ok (.getfield 91, 3) := by decide +kernel
theorem dX12_hanks_43 : decode cX12_hanks 43 = .ok (.iload_n 1, 1) := by decide +kernel
theorem dX12_hanks_44 : decode cX12_hanks 44 = .ok (.iaload, 1) := by decide +kernel
theorem dX12_hanks_45 : decode cX12_hanks 45 = .ok (.iload_n 2, 1) := by decide +kernel
theorem dX12_hanks_46 : decode cX12_hanks 46 = .ok (.if_icmp .eq 6, 3) := by decide +kernel
theorem dX12_hanks_49 : decode cX12_hanks 49 = .ok (.bipush (-13), 2) := by decide +kernel
theorem dX12_hanks_51 : decode cX12_hanks 51 = .ok (.ireturn, 1) := by decide +kernel
theorem dX12_hanks_52 : decode cX12_hanks 52 = .ok (.aload_n 0, 1) := by decide +kernel
theorem dX12_hanks_53 : decode cX12_hanks 53 = .ok (.getfield 91, 3) := by decide +kernel
theorem dX12_hanks_56 : decode cX12_hanks 56 = .ok (.iload_n 1, 1) := by decide +kernel
theorem dX12_hanks_57 : decode cX12_hanks 57 = .ok (.iaload, 1) := by decide +kernel
theorem dX12_hanks_58 : decode cX12_hanks 58 = .ok (.ifCond .ge 6, 3) := by decide +kernel
theorem dX12_hanks_61 : decode cX12_hanks 61 = .ok (.bipush (-11), 2) := by decide +kernel
theorem dX12_hanks_63 : decode cX12_hanks 63 = .ok (.ireturn, 1) := by decide +kernel
theorem dX12_hanks_64 : decode cX12_hanks 64 = .ok (.iconst 0, 1) := by decide +kernel
theorem dX12_hanks_65 : decode cX12_hanks 65 = .ok (.istore 5, 2) := by decide +kernel
theorem dX12_hanks_67 : decode cX12_hanks 67 = .ok (.iconst 0, 1) := by decide +kernel
theorem dX12_hanks_68 : decode cX12_hanks 68 = .ok (.istore 6, 2) := by decide +kernel
theorem dX12_hanks_70 : decode cX12_hanks 70 = .ok (.iload 6, 2) := by decide +kernel
theorem dX12_hanks_72 : decode cX12_hanks 72 = .ok (.iload 4, 2) := by decide +kernel
theorem dX12_hanks_74 : decode cX12_hanks 74 = .ok (.if_icmp .ge 91, 3) := by decide +kernel
theorem dX12_hanks_77 : decode cX12_hanks 77 = .ok (.iload_n 3, 1) := by decide +kernel
theorem dX12_hanks_78 : decode cX12_hanks 78 = .ok (.i2l, 1) := by decide +kernel
theorem dX12_hanks_79 : decode cX12_hanks 79 = .ok (.iconst 3, 1) := by decide +kernel
theorem dX12_hanks_80 : decode cX12_hanks 80 = .ok (.iload 6, 2) := by decide +kernel
theorem dX12_hanks_82 : decode cX12_hanks 82 = .ok (.imul, 1) := by decide +kernel
theorem dX12_hanks_83 : decode cX12_hanks 83 = .ok (.i2l, 1) := by decide +kernel
theorem dX12_hanks_84 : decode cX12_hanks 84 = .ok (.ladd, 1) := by decide +kernel
theorem dX12_hanks_85 : decode cX12_hanks 85 = .ok (.lstore 7, 2) := by decide +kernel
theorem dX12_hanks_87 : decode cX12_hanks 87 = .ok (.lload 7, 2) := by decide +kernel
theorem dX12_hanks_89 : decode cX12_hanks 89 = .ok (.lconst 0, 1) := by decide +kernel
theorem dX12_hanks_90 : decode cX12_hanks 90 = .ok (.lcmp, 1) := by decide +kernel
theorem dX12_hanks_91 : decode cX12_hanks 91 = .ok (.ifCond .lt 20, 3) := by decide +kernel
theorem dX12_hanks_94 : decode cX12_hanks 94 = .ok (.lload 7, 2) := by decide +kernel
theorem dX12_hanks_96 : decode cX12_hanks 96 = .ok (.ldc2_w 326, 3) := by decide +kernel
theorem dX12_hanks_99 : decode cX12_hanks 99 = .ok (.ladd, 1) := by decide +kernel
theorem dX12_hanks_100 : decode cX12_hanks 100 = .ok (.aload_n 0, 1) := by decide +kernel
theorem dX12_hanks_101 : decode cX12_hanks 101 = .ok (.getfield 94, 3) := by decide +kernel
theorem dX12_hanks_104 : decode cX12_hanks 104 = .ok (.iload_n 1, 1) := by decide +kernel
theorem dX12_hanks_105 : decode cX12_hanks 105 = .ok (.iaload, 1) := by decide +kernel
theorem dX12_hanks_106 : decode cX12_hanks 106 = .ok (.i2l, 1) := by decide +kernel
theorem dX12_hanks_107 : decode cX12_hanks 107 = .ok (.lcmp, 1) := by decide +kernel
theorem dX12_hanks_108 : decode cX12_hanks 108 = .ok (.ifCond .lt 6, 3) := by decide +kernel
theorem dX12_hanks_111 : decode cX12_hanks 111 = .ok (.bipush (-12), 2) := by decide +kernel
theorem dX12_hanks_113 : decode cX12_hanks 113 = .ok (.ireturn, 1) := by decide +kernel
theorem dX12_hanks_114 : decode cX12_hanks 114 = .ok (.bipush 40, 2) := by decide +kernel
theorem dX12_hanks_116 : decode cX12_hanks 116 = .ok (.iload_n 1, 1) := by decide +kernel
theorem dX12_hanks_117 : decode cX12_hanks 117 = .ok (.imul, 1) := by decide +kernel
theorem dX12_hanks_118 : decode cX12_hanks 118 = .ok (.lload 7, 2) := by decide +kernel
theorem dX12_hanks_120 : decode cX12_hanks 120 = .ok (.l2i, 1) := by decide +kernel
theorem dX12_hanks_121 : decode cX12_hanks 121 = .ok (.iadd, 1) := by decide +kernel
theorem dX12_hanks_122 : decode cX12_hanks 122 = .ok (.istore 9, 2) := by decide +kernel
theorem dX12_hanks_124 : decode cX12_hanks 124 = .ok (.aload_n 0, 1) := by decide +kernel
theorem dX12_hanks_125 : decode cX12_hanks 125 = .ok (.aload_n 0, 1) := by decide +kernel
theorem dX12_hanks_126 : decode cX12_hanks 126 = .ok (.getfield 97, 3) := by decide +kernel
theorem dX12_hanks_129 : decode cX12_hanks 129 = .ok (.iload 9, 2) := by decide +kernel
theorem dX12_hanks_131 : decode cX12_hanks 131 = .ok (.iaload, 1) := by decide +kernel
theorem dX12_hanks_132 : decode cX12_hanks 132 = .ok (.aload_n 0, 1) := by decide +kernel
theorem dX12_hanks_133 : decode cX12_hanks 133 = .ok (.getfield 97, 3) := by decide +kernel
theorem dX12_hanks_136 : decode cX12_hanks 136 = .ok (.iload 9, 2) := by decide +kernel
theorem dX12_hanks_138 : decode cX12_hanks 138 = .ok (.iconst 1, 1) := by decide +kernel
theorem dX12_hanks_139 : decode cX12_hanks 139 = .ok (.iadd, 1) := by decide +kernel
theorem dX12_hanks_140 : decode cX12_hanks 140 = .ok (.iaload, 1) := by decide +kernel
theorem dX12_hanks_141 : decode cX12_hanks 141 = .ok (.aload_n 0, 1) := by decide +kernel
theorem dX12_hanks_142 : decode cX12_hanks 142 = .ok (.getfield 97, 3) := by decide +kernel
theorem dX12_hanks_145 : decode cX12_hanks 145 = .ok (.iload 9, 2) := by decide +kernel
theorem dX12_hanks_147 : decode cX12_hanks 147 = .ok (.iconst 2, 1) := by decide +kernel
theorem dX12_hanks_148 : decode cX12_hanks 148 = .ok (.iadd, 1) := by decide +kernel
theorem dX12_hanks_149 : decode cX12_hanks 149 = .ok (.iaload, 1) := by decide +kernel
theorem dX12_hanks_150 : decode cX12_hanks 150 = .ok (.invokevirtual 328, 3) := by decide +kernel
theorem dX12_hanks_153 : decode cX12_hanks 153 = .ok (.ifCond .lt 6, 3) := by decide +kernel
theorem dX12_hanks_156 : decode cX12_hanks 156 = .ok (.iinc 5 1, 3) := by decide +kernel
theorem dX12_hanks_159 : decode cX12_hanks 159 = .ok (.iinc 6 1, 3) := by decide +kernel
theorem dX12_hanks_162 : decode cX12_hanks 162 = .ok (.goto (-92), 3) := by decide +kernel
theorem dX12_hanks_165 : decode cX12_hanks 165 = .ok (.iload 5, 2) := by decide +kernel
theorem dX12_hanks_167 : decode cX12_hanks 167 = .ok (.ireturn, 1) := by decide +kernel
theorem dX12_isUnder_0 : decode cX12_isUnder 0 = .ok (.iload_n 1, 1) := by decide +kernel
theorem dX12_isUnder_1 : decode cX12_isUnder 1 = .ok (.ifCond .eq 28, 3) := by decide +kernel
theorem dX12_isUnder_4 : decode cX12_isUnder 4 = .ok (.iload_n 0, 1) := by decide +kernel
theorem dX12_isUnder_5 : decode cX12_isUnder 5 = .ok (.iload_n 1, 1) := by decide +kernel
theorem dX12_isUnder_6 : decode cX12_isUnder 6 = .ok (.if_icmp .eq 23, 3) := by decide +kernel
theorem dX12_isUnder_9 : decode cX12_isUnder 9 = .ok (.iload_n 1, 1) := by decide +kernel
theorem dX12_isUnder_10 : decode cX12_isUnder 10 = .ok (.iconst 1, 1) := by decide +kernel
theorem dX12_isUnder_11 : decode cX12_isUnder 11 = .ok (.if_icmp .ne 8, 3) := by decide +kernel
theorem dX12_isUnder_14 : decode cX12_isUnder 14 = .ok (.iload_n 0, 1) := by decide +kernel
theorem dX12_isUnder_15 : decode cX12_isUnder 15 = .ok (.iconst 4, 1) := by decide +kernel
theorem dX12_isUnder_16 : decode cX12_isUnder 16 = .ok (.if_icmp .eq 13, 3) := by decide +kernel
theorem dX12_isUnder_19 : decode cX12_isUnder 19 = .ok (.iload_n 1, 1) := by decide +kernel
theorem dX12_isUnder_20 : decode cX12_isUnder 20 = .ok (.iconst 2, 1) := by decide +kernel
theorem dX12_isUnder_21 : decode cX12_isUnder 21 = .ok (.if_icmp .ne 12, 3) := by decide +kernel
theorem dX12_isUnder_24 : decode cX12_isUnder 24 = .ok (.iload_n 0, 1) := by decide +kernel
theorem dX12_isUnder_25 : decode cX12_isUnder 25 = .ok (.iconst 5, 1) := by decide +kernel
theorem dX12_isUnder_26 : decode cX12_isUnder 26 = .ok (.if_icmp .ne 7, 3) := by decide +kernel
theorem dX12_isUnder_29 : decode cX12_isUnder 29 = .ok (.iconst 1, 1) := by decide +kernel
theorem dX12_isUnder_30 : decode cX12_isUnder 30 = .ok (.goto 4, 3) := by decide +kernel
theorem dX12_isUnder_33 : decode cX12_isUnder 33 = .ok (.iconst 0, 1) := by decide +kernel
theorem dX12_isUnder_34 : decode cX12_isUnder 34 = .ok (.ireturn, 1) := by decide +kernel
theorem dX12_taken_0 : decode cX12_taken 0 = .ok (.iload_n 2, 1) := by decide +kernel
theorem dX12_taken_1 : decode cX12_taken 1 = .ok (.iconst 0, 1) := by decide +kernel
theorem dX12_taken_2 : decode cX12_taken 2 = .ok (.iconst 5, 1) := by decide +kernel
theorem dX12_taken_3 : decode cX12_taken 3 = .ok (.invokestatic 109, 3) := by decide +kernel
theorem dX12_taken_6 : decode cX12_taken 6 = .ok (.ifCond .ne 6, 3) := by decide +kernel
theorem dX12_taken_9 : decode cX12_taken 9 = .ok (.bipush (-2), 2) := by decide +kernel
theorem dX12_taken_11 : decode cX12_taken 11 = .ok (.ireturn, 1) := by decide +kernel
theorem dX12_taken_12 : decode cX12_taken 12 = .ok (.aload_n 0, 1) := by decide +kernel
theorem dX12_taken_13 : decode cX12_taken 13 = .ok (.iload_n 1, 1) := by decide +kernel
theorem dX12_taken_14 : decode cX12_taken 14 = .ok (.invokevirtual 127, 3) := by decide +kernel
theorem dX12_taken_17 : decode cX12_taken 17 = .ok (.ifCond .ne 6, 3) := by decide +kernel
theorem dX12_taken_20 : decode cX12_taken 20 = .ok (.bipush (-11), 2) := by decide +kernel
theorem dX12_taken_22 : decode cX12_taken 22 = .ok (.ireturn, 1) := by decide +kernel
theorem dX12_taken_23 : decode cX12_taken 23 = .ok (.aload_n 0, 1) := by decide +kernel
theorem dX12_taken_24 : decode cX12_taken 24 = .ok (.getfield 22, 3) := by decide +kernel
theorem dX12_taken_27 : decode cX12_taken 27 = .ok (.iload_n 1, 1) := by decide +kernel
theorem dX12_taken_28 : decode cX12_taken 28 = .ok (.iaload, 1) := by decide +kernel
theorem dX12_taken_29 : decode cX12_taken 29 = .ok (.iload_n 2, 1) := by decide +kernel
theorem dX12_taken_30 : decode cX12_taken 30 = .ok (.invokestatic 331, 3) := by decide +kernel
theorem dX12_taken_33 : decode cX12_taken 33 = .ok (.ifCond .eq 12, 3) := by decide +kernel
theorem dX12_taken_36 : decode cX12_taken 36 = .ok (.aload_n 0, 1) := by decide +kernel
theorem dX12_taken_37 : decode cX12_taken 37 = .ok (.getfield 31, 3) := by decide +kernel
theorem dX12_taken_40 : decode cX12_taken 40 = .ok (.iload_n 1, 1) := by decide +kernel
theorem dX12_taken_41 : decode cX12_taken 41 = .ok (.iaload, 1) := by decide +kernel
theorem dX12_taken_42 : decode cX12_taken 42 = .ok (.goto 5, 3) := by decide +kernel
theorem dX12_taken_45 : decode cX12_taken 45 = .ok (.bipush (-13), 2) := by decide +kernel
theorem dX12_taken_47 : decode cX12_taken 47 = .ok (.ireturn, 1) := by decide +kernel
