theorem dX8_init_0 : decode cX8_init 0 = .ok (.aload_n 0, 1) := by decide +kernel
theorem dX8_init_1 : decode cX8_init 1 = .ok (.invokespecial 1, 3) := by decide +kernel
theorem dX8_init_4 : decode cX8_init 4 = .ok (.aload_n 0, 1) := by decide +kernel
theorem dX8_init_5 : decode cX8_init 5 = .ok (.bipush 8, 2) := by decide +kernel
theorem dX8_init_7 : decode cX8_init 7 = .ok (.newarray .boolean, 2) := by decide +kernel
theorem dX8_init_9 : decode cX8_init 9 = .ok (.putfield 7, 3) := by decide +kernel
theorem dX8_init_12 : decode cX8_init 12 = .ok (.aload_n 0, 1) := by decide +kernel
theorem dX8_init_13 : decode cX8_init 13 = .ok (.bipush 8, 2) := by decide +kernel
theorem dX8_init_15 : decode cX8_init 15 = .ok (.newarray .int, 2) := by decide +kernel
theorem dX8_init_17 : decode cX8_init 17 = .ok (.putfield 13, 3) := by decide +kernel
theorem dX8_init_20 : decode cX8_init 20 = .ok (.aload_n 0, 1) := by decide +kernel
theorem dX8_init_21 : decode cX8_init 21 = .ok (.bipush 80, 2) := by decide +kernel
theorem dX8_init_23 : decode cX8_init 23 = .ok (.newarray .int, 2) := by decide +kernel
theorem dX8_init_25 : decode cX8_init 25 = .ok (.putfield 17, 3) := by decide +kernel
theorem dX8_init_28 : decode cX8_init 28 = .ok (.aload_n 0, 1) := by decide +kernel
theorem dX8_init_29 : decode cX8_init 29 = .ok (.bipush 80, 2) := by decide +kernel
theorem dX8_init_31 : decode cX8_init 31 = .ok (.newarray .boolean, 2) := by decide +kernel
theorem dX8_init_33 : decode cX8_init 33 = .ok (.putfield 20, 3) := by decide +kernel
theorem dX8_init_36 : decode cX8_init 36 = .ok (.aload_n 0, 1) := by decide +kernel
theorem dX8_init_37 : decode cX8_init 37 = .ok (.bipush 80, 2) := by decide +kernel
theorem dX8_init_39 : decode cX8_init 39 = .ok (.newarray .boolean, 2) := by decide +kernel
theorem dX8_init_41 : decode cX8_init 41 = .ok (.putfield 23, 3) := by decide +kernel
theorem dX8_init_44 : decode cX8_init 44 = .ok (.aload_n 0, 1) := by decide +kernel
theorem dX8_init_45 : decode cX8_init 45 = .ok (.bipush 80, 2) := by decide +kernel
theorem dX8_init_47 : decode cX8_init 47 = .ok (.newarray .int, 2) := by decide +kernel
theorem dX8_init_49 : decode cX8_init 49 = .ok (.putfield 26, 3) := by decide +kernel
theorem dX8_init_52 : decode cX8_init 52 = .ok (.aload_n 0, 1) := by decide +kernel
theorem dX8_init_53 : decode cX8_init 53 = .ok (.bipush 80, 2) := by decide +kernel
theorem dX8_init_55 : decode cX8_init 55 = .ok (.newarray .boolean, 2) := by decide +kernel
theorem dX8_init_57 : decode cX8_init 57 = .ok (.putfield 29, 3) := by decide +kernel
theorem dX8_init_60 : decode cX8_init 60 = .ok (.aload_n 0, 1) := by decide +kernel
theorem dX8_init_61 : decode cX8_init 61 = .ok (.bipush 80, 2) := by decide +kernel
theorem dX8_init_63 : decode cX8_init 63 = .ok (.newarray .int, 2) := by decide +kernel
theorem dX8_init_65 : decode cX8_init 65 = .ok (.putfield 32, 3) := by decide +kernel
theorem dX8_init_68 : decode cX8_init 68 = .ok (.aload_n 0, 1) := by decide +kernel
theorem dX8_init_69 : decode cX8_init 69 = .ok (.bipush 80, 2) := by decide +kernel
theorem dX8_init_71 : decode cX8_init 71 = .ok (.newarray .int, 2) := by decide +kernel
theorem dX8_init_73 : decode cX8_init 73 = .ok (.putfield 35, 3) := by decide +kernel
theorem dX8_init_76 : decode cX8_init 76 = .ok (.aload_n 0, 1) := by decide +kernel
theorem dX8_init_77 : decode cX8_init 77 = .ok (.sipush 240, 3) := by decide +kernel
theorem dX8_init_80 : decode cX8_init 80 = .ok (.newarray .int, 2) := by decide +kernel
theorem dX8_init_82 : decode cX8_init 82 = .ok (.putfield 38, 3) := by decide +kernel
theorem dX8_init_85 : decode cX8_init 85 = .ok (.aload_n 0, 1) := by decide +kernel
theorem dX8_init_86 : decode cX8_init 86 = .ok (.bipush 80, 2) := by decide +kernel
theorem dX8_init_88 : decode cX8_init 88 = .ok (.newarray .int, 2) := by decide +kernel
theorem dX8_init_90 : decode cX8_init 90 = .ok (.putfield 41, 3) := by decide +kernel
theorem dX8_init_93 : decode cX8_init 93 = .ok (.aload_n 0, 1) := by decide +kernel
theorem dX8_init_94 : decode cX8_init 94 = .ok (.sipush 480, 3) := by decide +kernel
theorem dX8_init_97 : decode cX8_init 97 = .ok (.newarray .int, 2) := by decide +kernel
theorem dX8_init_99 : decode cX8_init 99 = .ok (.putfield 44, 3) := by decide +kernel
theorem dX8_init_102 : decode cX8_init 102 = .ok (.aload_n 0, 1) := by decide +kernel
theorem dX8_init_103 : decode cX8_init 103 = .ok (.sipush 480, 3) := by decide +kernel
theorem dX8_init_106 : decode cX8_init 106 = .ok (.newarray .int, 2) := by decide +kernel
theorem dX8_init_108 : decode cX8_init 108 = .ok (.putfield 47, 3) := by decide +kernel
theorem dX8_init_111 : decode cX8_init 111 = .ok (.aload_n 0, 1) := by decide +kernel
theorem dX8_init_112 : decode cX8_init 112 = .ok (.sipush 480, 3) := by decide +kernel
theorem dX8_init_115 : decode cX8_init 115 = .ok (.newarray .int, 2) := by decide +kernel
theorem dX8_init_117 : decode cX8_init 117 = .ok (.putfield 50, 3) := by decide +kernel
theorem dX8_init_120 : decode cX8_init 120 = .ok (.aload_n 0, 1) := by decide +kernel
theorem dX8_init_121 : decode cX8_init 121 = .ok (.sipush 480, 3) := by decide +kernel
theorem dX8_init_124 : decode cX8_init 124 = .ok (.newarray .int, 2) := by decide +kernel
theorem dX8_init_126 : decode cX8_init 126 = .ok (.putfield 53, 3) := by decide +kernel
theorem dX8_init_129 : decode cX8_init 129 = .ok (.aload_n 0, 1) := by decide +kernel
theorem dX8_init_130 : decode cX8_init 130 = .ok (.sipush 480, 3) := by decide +kernel
theorem dX8_init_133 : decode cX8_init 133 = .ok (.newarray .boolean, 2) := by decide +kernel
theorem dX8_init_135 : decode cX8_init 135 = .ok (.putfield 56, 3) := by decide +kernel
theorem dX8_init_138 : decode cX8_init 138 = .ok (.aload_n 0, 1) := by decide +kernel
theorem dX8_init_139 : decode cX8_init 139 = .ok (.sipush 480, 3) := by decide +kernel
theorem dX8_init_142 : decode cX8_init 142 = .ok (.newarray .int, 2) := by decide +kernel
theorem dX8_init_144 : decode cX8_init 144 = .ok (.putfield 59, 3) := by decide +kernel
theorem dX8_init_147 : decode cX8_init 147 = .ok (.aload_n 0, 1) := by decide +kernel
theorem dX8_init_148 : decode cX8_init 148 = .ok (.sipush 480, 3) := by decide +kernel
theorem dX8_init_151 : decode cX8_init 151 = .ok (.newarray .boolean, 2) := by decide +kernel
theorem dX8_init_153 : decode cX8_init 153 = .ok (.putfield 62, 3) := by decide +kernel
theorem dX8_init_156 : decode cX8_init 156 = .ok (.aload_n 0, 1) := by decide +kernel
theorem dX8_init_157 : decode cX8_init 157 = .ok (.sipush 2048, 3) := by decide +kernel
theorem dX8_init_160 : decode cX8_init 160 = .ok (.newarray .boolean, 2) := by decide +kernel
theorem dX8_init_162 : decode cX8_init 162 = .ok (.putfield 65, 3) := by decide +kernel
theorem dX8_init_165 : decode cX8_init 165 = .ok (.aload_n 0, 1) := by decide +kernel
theorem dX8_init_166 : decode cX8_init 166 = .ok (.bipush 13, 2) := by decide +kernel
theorem dX8_init_168 : decode cX8_init 168 = .ok (.newarray .int, 2) := by decide +kernel
theorem dX8_init_170 : decode cX8_init 170 = .ok (.putfield 68, 3) := by decide +kernel
theorem dX8_init_173 : decode cX8_init 173 = .ok (.aload_n 0, 1) := by decide +kernel
theorem dX8_init_174 : decode cX8_init 174 = .ok (.bipush 13, 2) := by decide +kernel
theorem dX8_init_176 : decode cX8_init 176 = .ok (.newarray .int, 2) := by decide +kernel
theorem dX8_init_178 : decode cX8_init 178 = .ok (.putfield 71, 3) := by decide +kernel
theorem dX8_init_181 : decode cX8_init 181 = .ok (.aload_n 0, 1) := by decide +kernel
theorem dX8_init_182 : decode cX8_init 182 = .ok (.bipush 13, 2) := by decide +kernel
theorem dX8_init_184 : decode cX8_init 184 = .ok (.newarray .int, 2) := by decide +kernel
theorem dX8_init_186 : decode cX8_init 186 = .ok (.putfield 74, 3) := by decide +kernel
theorem dX8_init_189 : decode cX8_init 189 = .ok (.aload_n 0, 1) := by decide +kernel
theorem dX8_init_190 : decode cX8_init 190 = .ok (.bipush 13, 2) := by decide +kernel
theorem dX8_init_192 : decode cX8_init 192 = .ok (.newarray .int, 2) := by decide +kernel
theorem dX8_init_194 : decode cX8_init 194 = .ok (.putfield 77, 3) := by decide +kernel
theorem dX8_init_197 : decode cX8_init 197 = .ok (.aload_n 0, 1) := by decide +kernel
theorem dX8_init_198 : decode cX8_init 198 = .ok (.sipush 260, 3) := by decide +kernel
theorem dX8_init_201 : decode cX8_init 201 = .ok (.newarray .int, 2) := by decide +kernel
theorem dX8_init_203 : decode cX8_init 203 = .ok (.putfield 80, 3) := by decide +kernel
theorem dX8_init_206 : decode cX8_init 206 = .ok (.aload_n 0, 1) := by decide +kernel
theorem dX8_init_207 : decode cX8_init 207 = .ok (.sipush 260, 3) := by decide +kernel
theorem dX8_init_210 : decode cX8_init 210 = .ok (.newarray .int, 2) := by decide +kernel
theorem dX8_init_212 : decode cX8_init 212 = .ok (.putfield 83, 3) := by decide +kernel
theorem dX8_init_215 : decode cX8_init 215 = .ok (.aload_n 0, 1) := by decide +kernel
theorem dX8_init_216 : decode cX8_init 216 = .ok (.sipush 260, 3) := by decide +kernel
theorem dX8_init_219 : decode cX8_init 219 = .ok (.newarray .int, 2) := by decide +kernel
theorem dX8_init_221 : decode cX8_init 221 = .ok (.putfield 86, 3) := by decide +kernel
theorem dX8_init_224 : decode cX8_init 224 = .ok (.aload_n 0, 1) := by decide +kernel
theorem dX8_init_225 : decode cX8_init 225 = .ok (.sipush 260, 3) := by decide +kernel
theorem dX8_init_228 : decode cX8_init 228 = .ok (.newarray .int, 2) := by decide +kernel
theorem dX8_init_230 : decode cX8_init 230 = .ok (.putfield 89, 3) := by decide +kernel
theorem dX8_init_233 : decode cX8_init 233 = .ok (.aload_n 0, 1) := by decide +kernel
theorem dX8_init_234 : decode cX8_init 234 = .ok (.sipush 260, 3) := by decide +kernel
theorem dX8_init_237 : decode cX8_init 237 = .ok (.newarray .int, 2) := by decide +kernel
theorem dX8_init_239 : decode cX8_init 239 = .ok (.putfield 92, 3) := by decide +kernel
theorem dX8_init_242 : decode cX8_init 242 = .ok (.aload_n 0, 1) := by decide +kernel
theorem dX8_init_243 : decode cX8_init 243 = .ok (.bipush 10, 2) := by decide +kernel
theorem dX8_init_245 : decode cX8_init 245 = .ok (.newarray .boolean, 2) := by decide +kernel
theorem dX8_init_247 : decode cX8_init 247 = .ok (.putfield 95, 3) := by decide +kernel
theorem dX8_init_250 : decode cX8_init 250 = .ok (.aload_n 0, 1) := by decide +kernel
theorem dX8_init_251 : decode cX8_init 251 = .ok (.sipush 1400, 3) := by decide +kernel
theorem dX8_init_254 : decode cX8_init 254 = .ok (.newarray .int, 2) := by decide +kernel
theorem dX8_init_256 : decode cX8_init 256 = .ok (.putfield 98, 3) := by decide +kernel
theorem dX8_init_259 : decode cX8_init 259 = .ok (.aload_n 0, 1) := by decide +kernel
theorem dX8_init_260 : decode cX8_init 260 = .ok (.sipush 1400, 3) := by decide +kernel
theorem dX8_init_263 : decode cX8_init 263 = .ok (.newarray .int, 2) := by decide +kernel
theorem dX8_init_265 : decode cX8_init 265 = .ok (.putfield 101, 3) := by decide +kernel
theorem dX8_init_268 : decode cX8_init 268 = .ok (.aload_n 0, 1) := by decide +kernel
theorem dX8_init_269 : decode cX8_init 269 = .ok (.sipush 1400, 3) := by decide +kernel
theorem dX8_init_272 : decode cX8_init 272 = .ok (.newarray .int, 2) := by decide +kernel
theorem dX8_init_274 : decode cX8_init 274 = .ok (.putfield 104, 3) := by decide +kernel
theorem dX8_init_277 : decode cX8_init 277 = .ok (.aload_n 0, 1) := by decide +kernel
theorem dX8_init_278 : decode cX8_init 278 = .ok (.sipush 1400, 3) := by decide +kernel
theorem dX8_init_281 : decode cX8_init 281 = .ok (.newarray .int, 2) := by decide +kernel
theorem dX8_init_283 : decode cX8_init 283 = .ok (.putfield 107, 3) := by decide +kernel
theorem dX8_init_286 : decode cX8_init 286 = .ok (.aload_n 0, 1) := by decide +kernel
theorem dX8_init_287 : decode cX8_init 287 = .ok (.sipush 1400, 3) := by decide +kernel
theorem dX8_init_290 : decode cX8_init 290 = .ok (.newarray .int, 2) := by decide +kernel
theorem dX8_init_292 : decode cX8_init 292 = .ok (.putfield 110, 3) := by decide +kernel
theorem dX8_init_295 : decode cX8_init 295 = .ok (.aload_n 0, 1) := by decide +kernel
theorem dX8_init_296 : decode cX8_init 296 = .ok (.sipush 1400, 3) := by decide +kernel
theorem dX8_init_299 : decode cX8_init 299 = .ok (.newarray .int, 2) := by decide +kernel
theorem dX8_init_301 : decode cX8_init 301 = .ok (.putfield 113, 3) := by decide +kernel
theorem dX8_init_304 : decode cX8_init 304 = .ok (.aload_n 0, 1) := by decide +kernel
theorem dX8_init_305 : decode cX8_init 305 = .ok (.sipush 480, 3) := by decide +kernel
theorem dX8_init_308 : decode cX8_init 308 = .ok (.newarray .boolean, 2) := by decide +kernel
theorem dX8_init_310 : decode cX8_init 310 = .ok (.putfield 116, 3) := by decide +kernel
theorem dX8_init_313 : decode cX8_init 313 = .ok (.aload_n 0, 1) := by decide +kernel
theorem dX8_init_314 : decode cX8_init 314 = .ok (.sipush 480, 3) := by decide +kernel
theorem dX8_init_317 : decode cX8_init 317 = .ok (.newarray .int, 2) := by decide +kernel
theorem dX8_init_319 : decode cX8_init 319 = .ok (.putfield 119, 3) := by decide +kernel
theorem dX8_init_322 : decode cX8_init 322 = .ok (.return_, 1) := by decide +kernel
theorem dX8_thrown_0 : decode cX8_thrown 0 = .ok (.aload_n 0, 1) := by decide +kernel
theorem dX8_thrown_1 : decode cX8_thrown 1 = .ok (.getfield 122, 3) := by decide +kernel
theorem dX8_thrown_4 : decode cX8_thrown 4 = .ok (.ireturn, 1) := by decide +kernel
theorem dX8_isEdition_0 : decode cX8_isEdition 0 = .ok (.iload_n 1, 1) := by decide +kernel
theorem dX8_isEdition_1 : decode cX8_isEdition 1 = .ok (.ifCond .lt 15, 3) := by decide +kernel
theorem dX8_isEdition_4 : decode cX8_isEdition 4 = .ok (.iload_n 1, 1) := by decide +kernel
theorem dX8_isEdition_5 : decode cX8_isEdition 5 = .ok (.aload_n 0, 1) := by decide +kernel
theorem dX8_isEdition_6 : decode cX8_isEdition 6 = .ok (.getfield 126, 3) := by decide +kernel
theorem dX8_isEdition_9 : decode cX8_isEdition 9 = .ok (.if_icmp .ge 7, 3) := by decide +kernel
theorem dX8_isEdition_12 : decode cX8_isEdition 12 = .ok (.iconst 1, 1) := by decide +kernel
theorem dX8_isEdition_13 : decode cX8_isEdition 13 = .ok (.goto 4, 3) := by decide +kernel
theorem dX8_isEdition_16 : decode cX8_isEdition 16 = .ok (.iconst 0, 1) := by decide +kernel
theorem dX8_isEdition_17 : decode cX8_isEdition 17 = .ok (.ireturn, 1) := by decide +kernel
theorem dX8_isCaller_0 : decode cX8_isCaller 0 = .ok (.iload_n 1, 1) := by decide +kernel
theorem dX8_isCaller_1 : decode cX8_isCaller 1 = .ok (.ifCond .lt 15, 3) := by decide +kernel
theorem dX8_isCaller_4 : decode cX8_isCaller 4 = .ok (.iload_n 1, 1) := by decide +kernel
theorem dX8_isCaller_5 : decode cX8_isCaller 5 = .ok (.aload_n 0, 1) := by decide +kernel
theorem dX8_isCaller_6 : decode cX8_isCaller 6 = .ok (.getfield 129, 3) := by decide +kernel
theorem dX8_isCaller_9 : decode cX8_isCaller 9 = .ok (.if_icmp .ge 7, 3) := by decide +kernel
theorem dX8_isCaller_12 : decode cX8_isCaller 12 = .ok (.iconst 1, 1) := by decide +kernel
theorem dX8_isCaller_13 : decode cX8_isCaller 13 = .ok (.goto 4, 3) := by decide +kernel
theorem dX8_isCaller_16 : decode cX8_isCaller 16 = .ok (.iconst 0, 1) := by decide +kernel
theorem dX8_isCaller_17 : decode cX8_isCaller 17 = .ok (.ireturn, 1) := by decide +kernel
theorem dX8_isIn_0 : decode cX8_isIn 0 = .ok (.iload_n 0, 1) := by decide +kernel
theorem dX8_isIn_1 : decode cX8_isIn 1 = .ok (.iload_n 1, 1) := by decide +kernel
theorem dX8_isIn_2 : decode cX8_isIn 2 = .ok (.if_icmp .lt 12, 3) := by decide +kernel
theorem dX8_isIn_5 : decode cX8_isIn 5 = .ok (.iload_n 0, 1) := by decide +kernel
theorem dX8_isIn_6 : decode cX8_isIn 6 = .ok (.iload_n 2, 1) := by decide +kernel
theorem dX8_isIn_7 : decode cX8_isIn 7 = .ok (.if_icmp .gt 7, 3) := by decide +kernel
theorem dX8_isIn_10 : decode cX8_isIn 10 = .ok (.iconst 1, 1) := by decide +kernel
theorem dX8_isIn_11 : decode cX8_isIn 11 = .ok (.goto 4, 3) := by decide +kernel
theorem dX8_isIn_14 : decode cX8_isIn 14 = .ok (.iconst 0, 1) := by decide +kernel
theorem dX8_isIn_15 : decode cX8_isIn 15 = .ok (.ireturn, 1) := by decide +kernel
theorem dX8_at_0 : decode cX8_at 0 = .ok (.iconst 0, 1) := by decide +kernel
theorem dX8_at_1 : decode cX8_at 1 = .ok (.istore_n 3, 1) := by decide +kernel
theorem dX8_at_2 : decode cX8_at 2 = .ok (.iload_n 3, 1) := by decide +kernel
theorem dX8_at_3 : decode cX8_at 3 = .ok (.aload_n 0, 1) := by decide +kernel
theorem dX8_at_4 : decode cX8_at 4 = .ok (.getfield 13, 3) := by decide +kernel
theorem dX8_at_7 : decode cX8_at 7 = .ok (.iload_n 1, 1) := by decide +kernel
theorem dX8_at_8 : decode cX8_at 8 = .ok (.iaload, 1) := by decide +kernel
theorem dX8_at_9 : decode cX8_at 9 = .ok (.if_icmp .ge 31, 3) := by decide +kernel
theorem dX8_at_12 : decode cX8_at 12 = .ok (.aload_n 0, 1) := by decide +kernel
theorem dX8_at_13 : decode cX8_at 13 = .ok (.getfield 17, 3) := by decide +kernel
theorem dX8_at_16 : decode cX8_at 16 = .ok (.bipush 10, 2) := by decide +kernel
theorem dX8_at_18 : decode cX8_at 18 = .ok (.iload_n 1, 1) := by decide +kernel
theorem dX8_at_19 : decode cX8_at 19 = .ok (.imul, 1) := by decide +kernel
theorem dX8_at_20 : decode cX8_at 20 = .ok (.iload_n 3, 1) := by decide +kernel
theorem dX8_at_21 : decode cX8_at 21 = .ok (.iadd, 1) := by decide +kernel
theorem dX8_at_22 : decode cX8_at 22 = .ok (.iaload, 1) := by decide +kernel
theorem dX8_at_23 : decode cX8_at 23 = .ok (.iload_n 2, 1) := by decide +kernel
theorem dX8_at_24 : decode cX8_at 24 = .ok (.if_icmp .ne 10, 3) := by decide +kernel
theorem dX8_at_27 : decode cX8_at 27 = .ok (.bipush 10, 2) := by decide +kernel
theorem dX8_at_29 : decode cX8_at 29 = .ok (.iload_n 1, 1) := by decide +kernel
theorem dX8_at_30 : decode cX8_at 30 = .ok (.imul, 1) := by decide +kernel
theorem dX8_at_31 : decode cX8_at 31 = .ok (.iload_n 3, 1) := by decide +kernel
theorem dX8_at_32 : decode cX8_at 32 = .ok (.iadd, 1) := by decide +kernel
theorem dX8_at_33 : decode cX8_at 33 = .ok (.ireturn, 1) := by decide +kernel
theorem dX8_at_34 : decode cX8_at 34 = .ok (.iinc 3 1, 3) := by decide +kernel
theorem dX8_at_37 : decode cX8_at 37 = .ok (.goto (-35), 3) := by decide +kernel
theorem dX8_at_40 : decode cX8_at 40 = .ok (.iconst (-1), 1) := by decide +kernel
theorem dX8_at_41 : decode cX8_at 41 = .ok (.ireturn, 1) := by decide +kernel
theorem dX8_own_0 : decode cX8_own 0 = .ok (.bipush 6, 2) := by decide +kernel
theorem dX8_own_2 : decode cX8_own 2 = .ok (.iload_n 1, 1) := by decide +kernel
theorem dX8_own_3 : decode cX8_own 3 = .ok (.imul, 1) := by decide +kernel
theorem dX8_own_4 : decode cX8_own 4 = .ok (.istore 5, 2) := by decide +kernel
theorem dX8_own_6 : decode cX8_own 6 = .ok (.iload 5, 2) := by decide +kernel
theorem dX8_own_8 : decode cX8_own 8 = .ok (.bipush 6, 2) := by decide +kernel
theorem dX8_own_10 : decode cX8_own 10 = .ok (.iload_n 1, 1) := by decide +kernel
theorem dX8_own_11 : decode cX8_own 11 = .ok (.imul, 1) := by decide +kernel
theorem dX8_own_12 : decode cX8_own 12 = .ok (.aload_n 0, 1) := by decide +kernel
theorem dX8_own_13 : decode cX8_own 13 = .ok (.getfield 41, 3) := by decide +kernel
theorem dX8_own_16 : decode cX8_own 16 = .ok (.iload_n 1, 1) := by decide +kernel
theorem dX8_own_17 : decode cX8_own 17 = .ok (.iaload, 1) := by decide +kernel
theorem dX8_own_18 : decode cX8_own 18 = .ok (.iadd, 1) := by decide +kernel
theorem dX8_own_19 : decode cX8_own 19 = .ok (.if_icmp .ge 46, 3) := by decide +kernel
theorem dX8_own_22 : decode cX8_own 22 = .ok (.aload_n 0, 1) := by decide +kernel
theorem dX8_own_23 : decode cX8_own 23 = .ok (.getfield 44, 3) := by decide +kernel
theorem dX8_own_26 : decode cX8_own 26 = .ok (.iload 5, 2) := by decide +kernel
theorem dX8_own_28 : decode cX8_own 28 = .ok (.iaload, 1) := by decide +kernel
theorem dX8_own_29 : decode cX8_own 29 = .ok (.iload_n 2, 1) := by decide +kernel
theorem dX8_own_30 : decode cX8_own 30 = .ok (.if_icmp .ne 29, 3) := by decide +kernel
theorem dX8_own_33 : decode cX8_own 33 = .ok (.aload_n 0, 1) := by decide +kernel
theorem dX8_own_34 : decode cX8_own 34 = .ok (.getfield 47, 3) := by decide +kernel
theorem dX8_own_37 : decode cX8_own 37 = .ok (.iload 5, 2) := by decide +kernel
theorem dX8_own_39 : decode cX8_own 39 = .ok (.iaload, 1) := by decide +kernel
theorem dX8_own_40 : decode cX8_own 40 = .ok (.iload_n 3, 1) := by decide +kernel
theorem dX8_own_41 : decode cX8_own 41 = .ok (.if_icmp .ne 18, 3) := by decide +kernel
theorem dX8_own_44 : decode cX8_own 44 = .ok (.aload_n 0, 1) := by decide +kernel
theorem dX8_own_45 : decode cX8_own 45 = .ok (.getfield 50, 3) := by decide +kernel
theorem dX8_own_48 : decode cX8_own 48 = .ok (.iload 5, 2) := by decide +kernel
theorem dX8_own_50 : decode cX8_own 50 = .ok (.iaload, 1) := by decide +kernel
theorem dX8_own_51 : decode cX8_own 51 = .ok (.iload 4, 2) := by decide +kernel
theorem dX8_own_53 : decode cX8_own 53 = .ok (.if_icmp .ne 6, 3) := by decide +kernel
theorem dX8_own_56 : decode cX8_own 56 = .ok (.iload 5, 2) := by decide +kernel
theorem dX8_own_58 : decode cX8_own 58 = .ok (.ireturn, 1) := by decide +kernel
theorem dX8_own_59 : decode cX8_own 59 = .ok (.iinc 5 1, 3) := by decide +kernel
theorem dX8_own_62 : decode cX8_own 62 = .ok (.goto (-56), 3) := by decide +kernel
theorem dX8_own_65 : decode cX8_own 65 = .ok (.iconst (-1), 1) := by decide +kernel
theorem dX8_own_66 : decode cX8_own 66 = .ok (.ireturn, 1) := by decide +kernel
theorem dX8_edition_0 : decode cX8_edition 0 = .ok (.aload_n 0, 1) := by decide +kernel
theorem dX8_edition_1 : decode cX8_edition 1 = .ok (.aload_n 0, 1) := by decide +kernel
theorem dX8_edition_2 : decode cX8_edition 2 = .ok (.getfield 126, 3) := by decide +kernel
theorem dX8_edition_5 : decode cX8_edition 5 = .ok (.bipush 8, 2) := by decide +kernel
theorem dX8_edition_7 : decode cX8_edition 7 = .ok (.if_icmp .ne 7, 3) := by decide +kernel
theorem dX8_edition_10 : decode cX8_edition 10 = .ok (.iconst 1, 1) := by decide +kernel
theorem dX8_edition_11 : decode cX8_edition 11 = .ok (.goto 4, 3) := by decide +kernel
theorem dX8_edition_14 : decode cX8_edition 14 = .ok (.iconst 0, 1) := by decide +kernel
theorem dX8_edition_15 : decode cX8_edition 15 = .ok (.putfield 122, 3) := by decide +kernel
theorem dX8_edition_18 : decode cX8_edition 18 = .ok (.aload_n 0, 1) := by decide +kernel
theorem dX8_edition_19 : decode cX8_edition 19 = .ok (.getfield 122, 3) := by decide +kernel
theorem dX8_edition_22 : decode cX8_edition 22 = .ok (.ifCond .le 5, 3) := by decide +kernel
theorem dX8_edition_25 : decode cX8_edition 25 = .ok (.iconst 0, 1) := by decide +kernel
theorem dX8_edition_26 : decode cX8_edition 26 = .ok (.ireturn, 1) := by decide +kernel
theorem dX8_edition_27 : decode cX8_edition 27 = .ok (.aload_n 0, 1) := by decide +kernel
theorem dX8_edition_28 : decode cX8_edition 28 = .ok (.dup, 1) := by decide +kernel
theorem dX8_edition_29 : decode cX8_edition 29 = .ok (.getfield 126, 3) := by decide +kernel
theorem dX8_edition_32 : decode cX8_edition 32 = .ok (.iconst 1, 1) := by decide +kernel
theorem dX8_edition_33 : decode cX8_edition 33 = .ok (.iadd, 1) := by decide +kernel
theorem dX8_edition_34 : decode cX8_edition 34 = .ok (.putfield 126, 3) := by decide +kernel
theorem dX8_edition_37 : decode cX8_edition 37 = .ok (.aload_n 0, 1) := by decide +kernel
theorem dX8_edition_38 : decode cX8_edition 38 = .ok (.getfield 126, 3) := by decide +kernel
theorem dX8_edition_41 : decode cX8_edition 41 = .ok (.iconst 1, 1) := by decide +kernel
theorem dX8_edition_42 : decode cX8_edition 42 = .ok (.isub, 1) := by decide +kernel
theorem dX8_edition_43 : decode cX8_edition 43 = .ok (.ireturn, 1) := by decide +kernel
theorem dX8_copy_0 : decode cX8_copy 0 = .ok (.aload_n 0, 1) := by decide +kernel
theorem dX8_copy_1 : decode cX8_copy 1 = .ok (.aload_n 0, 1) := by decide +kernel
theorem dX8_copy_2 : decode cX8_copy 2 = .ok (.iload_n 1, 1) := by decide +kernel
theorem dX8_copy_3 : decode cX8_copy 3 = .ok (.invokevirtual 132, 3) := by decide +kernel
theorem dX8_copy_6 : decode cX8_copy 6 = .ok (.ifCond .ne 7, 3) := by decide +kernel
theorem dX8_copy_9 : decode cX8_copy 9 = .ok (.iconst 1, 1) := by decide +kernel
theorem dX8_copy_10 : decode cX8_copy 10 = .ok (.goto 30, 3) := by decide +kernel
theorem dX8_copy_13 : decode cX8_copy 13 = .ok (.aload_n 0, 1) := by decide +kernel
theorem dX8_copy_14 : decode cX8_copy 14 = .ok (.getfield 7, 3) := by decide +kernel
theorem dX8_copy_17 : decode cX8_copy 17 = .ok (.iload_n 1, 1) := by decide +kernel
theorem dX8_copy_18 : decode cX8_copy 18 = .ok (.baload, 1) := by decide +kernel
theorem dX8_copy_19 : decode cX8_copy 19 = .ok (.ifCond .ne 7, 3) := by decide +kernel
theorem dX8_copy_22 : decode cX8_copy 22 = .ok (.iconst 2, 1) := by decide +kernel
theorem dX8_copy_23 : decode cX8_copy 23 = .ok (.goto 17, 3) := by decide +kernel
theorem dX8_copy_26 : decode cX8_copy 26 = .ok (.aload_n 0, 1) := by decide +kernel
theorem dX8_copy_27 : decode cX8_copy 27 = .ok (.getfield 126, 3) := by decide +kernel
theorem dX8_copy_30 : decode cX8_copy 30 = .ok (.bipush 8, 2) := by decide +kernel
theorem dX8_copy_32 : decode cX8_copy 32 = .ok (.if_icmp .ne 7, 3) := by decide +kernel
theorem dX8_copy_35 : decode cX8_copy 35 = .ok (.iconst 3, 1) := by decide +kernel
theorem dX8_copy_36 : decode cX8_copy 36 = .ok (.goto 4, 3) := by decide +kernel
theorem dX8_copy_39 : decode cX8_copy 39 = .ok (.iconst 0, 1) := by decide +kernel
theorem dX8_copy_40 : decode cX8_copy 40 = .ok (.putfield 122, 3) := by decide +kernel
theorem dX8_copy_43 : decode cX8_copy 43 = .ok (.aload_n 0, 1) := by decide +kernel
theorem dX8_copy_44 : decode cX8_copy 44 = .ok (.getfield 122, 3) := by decide +kernel
theorem dX8_copy_47 : decode cX8_copy 47 = .ok (.ifCond .le 5, 3) := by decide +kernel
theorem dX8_copy_50 : decode cX8_copy 50 = .ok (.iconst 0, 1) := by decide +kernel
theorem dX8_copy_51 : decode cX8_copy 51 = .ok (.ireturn, 1) := by decide +kernel
theorem dX8_copy_52 : decode cX8_copy 52 = .ok (.aload_n 0, 1) := by decide +kernel
theorem dX8_copy_53 : decode cX8_copy 53 = .ok (.getfield 126, 3) := by decide +kernel
theorem dX8_copy_56 : decode cX8_copy 56 = .ok (.istore_n 2, 1) := by decide +kernel
theorem dX8_copy_57 : decode cX8_copy 57 = .ok (.aload_n 0, 1) := by decide +kernel
theorem dX8_copy_58 : decode cX8_copy 58 = .ok (.dup, 1) := by decide +kernel
theorem dX8_copy_59 : decode cX8_copy 59 = .ok (.getfield 126, 3) := by decide +kernel
theorem dX8_copy_62 : decode cX8_copy 62 = .ok (.iconst 1, 1) := by decide +kernel
theorem dX8_copy_63 : decode cX8_copy 63 = .ok (.iadd, 1) := by decide +kernel
theorem dX8_copy_64 : decode cX8_copy 64 = .ok (.putfield 126, 3) := by decide +kernel
theorem dX8_copy_67 : decode cX8_copy 67 = .ok (.aload_n 0, 1) := by decide +kernel
theorem dX8_copy_68 : decode cX8_copy 68 = .ok (.getfield 13, 3) := by decide +kernel
theorem dX8_copy_71 : decode cX8_copy 71 = .ok (.iload_n 2, 1) := by decide +kernel
theorem dX8_copy_72 : decode cX8_copy 72 = .ok (.aload_n 0, 1) := by decide +kernel
theorem dX8_copy_73 : decode cX8_copy 73 = .ok (.getfield 13, 3) := by decide +kernel
theorem dX8_copy_76 : decode cX8_copy 76 = .ok (.iload_n 1, 1) := by decide +kernel
theorem dX8_copy_77 : decode cX8_copy 77 = .ok (.iaload, 1) := by decide +kernel
theorem dX8_copy_78 : decode cX8_copy 78 = .ok (.iastore, 1) := by decide +kernel
theorem dX8_copy_79 : decode cX8_copy 79 = .ok (.iconst 0, 1) := by decide +kernel
theorem dX8_copy_80 : decode cX8_copy 80 = .ok (.istore_n 3, 1) := by decide +kernel
theorem dX8_copy_81 : decode cX8_copy 81 = .ok (.iload_n 3, 1) := by decide +kernel
theorem dX8_copy_82 : decode cX8_copy 82 = .ok (.aload_n 0, 1) := by decide +kernel
theorem dX8_copy_83 : decode cX8_copy 83 = .ok (.getfield 13, 3) := by decide +kernel
theorem dX8_copy_86 : decode cX8_copy 86 = .ok (.iload_n 1, 1) := by decide +kernel
theorem dX8_copy_87 : decode cX8_copy 87 = .ok (.iaload, 1) := by decide +kernel
theorem dX8_copy_88 : decode cX8_copy 88 = .ok (.if_icmp .ge 25, 3) := by decide +kernel
theorem dX8_copy_91 : decode cX8_copy 91 = .ok (.aload_n 0, 1) := by decide +kernel
theorem dX8_copy_92 : decode cX8_copy 92 = .ok (.bipush 10, 2) := by decide +kernel
theorem dX8_copy_94 : decode cX8_copy 94 = .ok (.iload_n 1, 1) := by decide +kernel
theorem dX8_copy_95 : decode cX8_copy 95 = .ok (.imul, 1) := by decide +kernel
theorem dX8_copy_96 : decode cX8_copy 96 = .ok (.iload_n 3, 1) := by decide +kernel
theorem dX8_copy_97 : decode cX8_copy 97 = .ok (.iadd, 1) := by decide +kernel
theorem dX8_copy_98 : decode cX8_copy 98 = .ok (.bipush 10, 2) := by decide +kernel
theorem dX8_copy_100 : decode cX8_copy 100 = .ok (.iload_n 2, 1) := by decide +kernel
theorem dX8_copy_101 : decode cX8_copy 101 = .ok (.imul, 1) := by decide +kernel
theorem dX8_copy_102 : decode cX8_copy 102 = .ok (.iload_n 3, 1) := by decide +kernel
theorem dX8_copy_103 : decode cX8_copy 103 = .ok (.iadd, 1) := by decide +kernel
theorem dX8_copy_104 : decode cX8_copy 104 = .ok (.invokevirtual 136, 3) := by decide +kernel
theorem dX8_copy_107 : decode cX8_copy 107 = .ok (.iinc 3 1, 3) := by decide +kernel
theorem dX8_copy_110 : decode cX8_copy 110 = .ok (.goto (-29), 3) := by decide +kernel
theorem dX8_copy_113 : decode cX8_copy 113 = .ok (.iload_n 2, 1) := by decide +kernel
theorem dX8_copy_114 : decode cX8_copy 114 = .ok (.ireturn, 1) := by decide +kernel
theorem dX8_moveType_0 : decode cX8_moveType 0 = .ok (.aload_n 0, 1) := by decide +kernel
theorem dX8_moveType_1 : decode cX8_moveType 1 = .ok (.getfield 17, 3) := by decide +kernel
theorem dX8_moveType_4 : decode cX8_moveType 4 = .ok (.iload_n 2, 1) := by decide +kernel
theorem dX8_moveType_5 : decode cX8_moveType 5 = .ok (.aload_n 0, 1) := by decide +kernel
theorem dX8_moveType_6 : decode cX8_moveType 6 = .ok (.getfield 17, 3) := by decide +kernel
theorem dX8_moveType_9 : decode cX8_moveType 9 = .ok (.iload_n 1, 1) := by decide +kernel
theorem dX8_moveType_10 : decode cX8_moveType 10 = .ok (.iaload, 1) := by decide +kernel
theorem dX8_moveType_11 : decode cX8_moveType 11 = .ok (.iastore, 1) := by decide +kernel
theorem dX8_moveType_12 : decode cX8_moveType 12 = .ok (.aload_n 0, 1) := by decide +kernel
theorem dX8_moveType_13 : decode cX8_moveType 13 = .ok (.getfield 20, 3) := by decide +kernel
theorem dX8_moveType_16 : decode cX8_moveType 16 = .ok (.iload_n 2, 1) := by decide +kernel
theorem dX8_moveType_17 : decode cX8_moveType 17 = .ok (.aload_n 0, 1) := by decide +kernel
theorem dX8_moveType_18 : decode cX8_moveType 18 = .ok (.getfield 20, 3) := by decide +kernel
theorem dX8_moveType_21 : decode cX8_moveType 21 = .ok (.iload_n 1, 1) := by decide +kernel
theorem dX8_moveType_22 : decode cX8_moveType 22 = .ok (.baload, 1) := by decide +kernel
theorem dX8_moveType_23 : decode cX8_moveType 23 = .ok (.bastore, 1) := by decide +kernel
theorem dX8_moveType_24 : decode cX8_moveType 24 = .ok (.aload_n 0, 1) := by decide +kernel
theorem dX8_moveType_25 : decode cX8_moveType 25 = .ok (.getfield 23, 3) := by decide +kernel
theorem dX8_moveType_28 : decode cX8_moveType 28 = .ok (.iload_n 2, 1) := by decide +kernel
theorem dX8_moveType_29 : decode cX8_moveType 29 = .ok (.aload_n 0, 1) := by decide +kernel
theorem dX8_moveType_30 : decode cX8_moveType 30 = .ok (.getfield 23, 3) := by decide +kernel
theorem dX8_moveType_33 : decode cX8_moveType 33 = .ok (.iload_n 1, 1) := by decide +kernel
theorem dX8_moveType_34 : decode cX8_moveType 34 = .ok (.baload, 1) := by decide +kernel
theorem dX8_moveType_35 : decode cX8_moveType 35 = .ok (.bastore, 1) := by decide +kernel
theorem dX8_moveType_36 : decode cX8_moveType 36 = .ok (.aload_n 0, 1) := by decide +kernel
theorem dX8_moveType_37 : decode cX8_moveType 37 = .ok (.getfield 26, 3) := by decide +kernel
theorem dX8_moveType_40 : decode cX8_moveType 40 = .ok (.iload_n 2, 1) := by decide +kernel
theorem dX8_moveType_41 : decode cX8_moveType 41 = .ok (.aload_n 0, 1) := by decide +kernel
theorem dX8_moveType_42 : decode cX8_moveType 42 = .ok (.getfield 26, 3) := by decide +kernel
theorem dX8_moveType_45 : decode cX8_moveType 45 = .ok (.iload_n 1, 1) := by decide +kernel
theorem dX8_moveType_46 : decode cX8_moveType 46 = .ok (.iaload, 1) := by decide +kernel
theorem dX8_moveType_47 : decode cX8_moveType 47 = .ok (.iastore, 1) := by decide +kernel
theorem dX8_moveType_48 : decode cX8_moveType 48 = .ok (.aload_n 0, 1) := by decide +kernel
theorem dX8_moveType_49 : decode cX8_moveType 49 = .ok (.getfield 29, 3) := by decide +kernel
theorem dX8_moveType_52 : decode cX8_moveType 52 = .ok (.iload_n 2, 1) := by decide +kernel
theorem dX8_moveType_53 : decode cX8_moveType 53 = .ok (.aload_n 0, 1) := by decide +kernel
theorem dX8_moveType_54 : decode cX8_moveType 54 = .ok (.getfield 29, 3) := by decide +kernel
theorem dX8_moveType_57 : decode cX8_moveType 57 = .ok (.iload_n 1, 1) := by decide +kernel
theorem dX8_moveType_58 : decode cX8_moveType 58 = .ok (.baload, 1) := by decide +kernel
theorem dX8_moveType_59 : decode cX8_moveType 59 = .ok (.bastore, 1) := by decide +kernel
theorem dX8_moveType_60 : decode cX8_moveType 60 = .ok (.aload_n 0, 1) := by decide +kernel
theorem dX8_moveType_61 : decode cX8_moveType 61 = .ok (.getfield 32, 3) := by decide +kernel
theorem dX8_moveType_64 : decode cX8_moveType 64 = .ok (.iload_n 2, 1) := by decide +kernel
theorem dX8_moveType_65 : decode cX8_moveType 65 = .ok (.aload_n 0, 1) := by decide +kernel
theorem dX8_moveType_66 : decode cX8_moveType 66 = .ok (.getfield 32, 3) := by decide +kernel
theorem dX8_moveType_69 : decode cX8_moveType 69 = .ok (.iload_n 1, 1) := by decide +kernel
theorem dX8_moveType_70 : decode cX8_moveType 70 = .ok (.iaload, 1) := by decide +kernel
theorem dX8_moveType_71 : decode cX8_moveType 71 = .ok (.iastore, 1) := by decide +kernel
theorem dX8_moveType_72 : decode cX8_moveType 72 = .ok (.aload_n 0, 1) := by decide +kernel
theorem dX8_moveType_73 : decode cX8_moveType 73 = .ok (.getfield 35, 3) := by decide +kernel
theorem dX8_moveType_76 : decode cX8_moveType 76 = .ok (.iload_n 2, 1) := by decide +kernel
theorem dX8_moveType_77 : decode cX8_moveType 77 = .ok (.aload_n 0, 1) := by decide +kernel
theorem dX8_moveType_78 : decode cX8_moveType 78 = .ok (.getfield 35, 3) := by decide +kernel
theorem dX8_moveType_81 : decode cX8_moveType 81 = .ok (.iload_n 1, 1) := by decide +kernel
theorem dX8_moveType_82 : decode cX8_moveType 82 = .ok (.iaload, 1) := by decide +kernel
theorem dX8_moveType_83 : decode cX8_moveType 83 = .ok (.iastore, 1) := by decide +kernel
theorem dX8_moveType_84 : decode cX8_moveType 84 = .ok (.iconst 0, 1) := by decide +kernel
theorem dX8_moveType_85 : decode cX8_moveType 85 = .ok (.istore_n 3, 1) := by decide +kernel
theorem dX8_moveType_86 : decode cX8_moveType 86 = .ok (.iload_n 3, 1) := by decide +kernel
theorem dX8_moveType_87 : decode cX8_moveType 87 = .ok (.iconst 3, 1) := by decide +kernel
theorem dX8_moveType_88 : decode cX8_moveType 88 = .ok (.if_icmp .ge 29, 3) := by decide +kernel
theorem dX8_moveType_91 : decode cX8_moveType 91 = .ok (.aload_n 0, 1) := by decide +kernel
theorem dX8_moveType_92 : decode cX8_moveType 92 = .ok (.getfield 38, 3) := by decide +kernel
theorem dX8_moveType_95 : decode cX8_moveType 95 = .ok (.iconst 3, 1) := by decide +kernel
theorem dX8_moveType_96 : decode cX8_moveType 96 = .ok (.iload_n 2, 1) := by decide +kernel
theorem dX8_moveType_97 : decode cX8_moveType 97 = .ok (.imul, 1) := by decide +kernel
theorem dX8_moveType_98 : decode cX8_moveType 98 = .ok (.iload_n 3, 1) := by decide +kernel
theorem dX8_moveType_99 : decode cX8_moveType 99 = .ok (.iadd, 1) := by decide +kernel
theorem dX8_moveType_100 : decode cX8_moveType 100 = .ok (.aload_n 0, 1) := by decide +kernel
theorem dX8_moveType_101 : decode cX8_moveType 101 = .ok (.getfield 38, 3) := by decide +kernel
theorem dX8_moveType_104 : decode cX8_moveType 104 = .ok (.iconst 3, 1) := by decide +kernel
theorem dX8_moveType_105 : decode cX8_moveType 105 = .ok (.iload_n 1, 1) := by decide +kernel
theorem dX8_moveType_106 : decode cX8_moveType 106 = .ok (.imul, 1) := by decide +kernel
theorem dX8_moveType_107 : decode cX8_moveType 107 = .ok (.iload_n 3, 1) := by decide +kernel
theorem dX8_moveType_108 : decode cX8_moveType 108 = .ok (.iadd, 1) := by decide +kernel
theorem dX8_moveType_109 : decode cX8_moveType 109 = .ok (.iaload, 1) := by decide +kernel
theorem dX8_moveType_110 : decode cX8_moveType 110 = .ok (.iastore, 1) := by decide +kernel
theorem dX8_moveType_111 : decode cX8_moveType 111 = .ok (.iinc 3 1, 3) := by decide +kernel
theorem dX8_moveType_114 : decode cX8_moveType 114 = .ok (.goto (-28), 3) := by decide +kernel
theorem dX8_moveType_117 : decode cX8_moveType 117 = .ok (.aload_n 0, 1) := by decide +kernel
theorem dX8_moveType_118 : decode cX8_moveType 118 = .ok (.getfield 41, 3) := by decide +kernel
theorem dX8_moveType_121 : decode cX8_moveType 121 = .ok (.iload_n 2, 1) := by decide +kernel
theorem dX8_moveType_122 : decode cX8_moveType 122 = .ok (.aload_n 0, 1) := by decide +kernel
theorem dX8_moveType_123 : decode cX8_moveType 123 = .ok (.getfield 41, 3) := by decide +kernel
theorem dX8_moveType_126 : decode cX8_moveType 126 = .ok (.iload_n 1, 1) := by decide +kernel
theorem dX8_moveType_127 : decode cX8_moveType 127 = .ok (.iaload, 1) := by decide +kernel
theorem dX8_moveType_128 : decode cX8_moveType 128 = .ok (.iastore, 1) := by decide +kernel
theorem dX8_moveType_129 : decode cX8_moveType 129 = .ok (.iconst 0, 1) := by decide +kernel
theorem dX8_moveType_130 : decode cX8_moveType 130 = .ok (.istore_n 3, 1) := by decide +kernel
theorem dX8_moveType_131 : decode cX8_moveType 131 = .ok (.iload_n 3, 1) := by decide +kernel
theorem dX8_moveType_132 : decode cX8_moveType 132 = .ok (.bipush 6, 2) := by decide +kernel
theorem dX8_moveType_134 : decode cX8_moveType 134 = .ok (.if_icmp .ge 25, 3) := by decide +kernel
theorem dX8_moveType_137 : decode cX8_moveType 137 = .ok (.aload_n 0, 1) := by decide +kernel
theorem dX8_moveType_138 : decode cX8_moveType 138 = .ok (.bipush 6, 2) := by decide +kernel
theorem dX8_moveType_140 : decode cX8_moveType 140 = .ok (.iload_n 1, 1) := by decide +kernel
theorem dX8_moveType_141 : decode cX8_moveType 141 = .ok (.imul, 1) := by decide +kernel
theorem dX8_moveType_142 : decode cX8_moveType 142 = .ok (.iload_n 3, 1) := by decide +kernel
theorem dX8_moveType_143 : decode cX8_moveType 143 = .ok (.iadd, 1) := by decide +kernel
theorem dX8_moveType_144 : decode cX8_moveType 144 = .ok (.bipush 6, 2) := by decide +kernel
theorem dX8_moveType_146 : decode cX8_moveType 146 = .ok (.iload_n 2, 1) := by decide +kernel
theorem dX8_moveType_147 : decode cX8_moveType 147 = .ok (.imul, 1) := by decide +kernel
theorem dX8_moveType_148 : decode cX8_moveType 148 = .ok (.iload_n 3, 1) := by decide +kernel
theorem dX8_moveType_149 : decode cX8_moveType 149 = .ok (.iadd, 1) := by decide +kernel
theorem dX8_moveType_150 : decode cX8_moveType 150 = .ok (.invokevirtual 140, 3) := by decide +kernel
theorem dX8_moveType_153 : decode cX8_moveType 153 = .ok (.iinc 3 1, 3) := by decide +kernel
theorem dX8_moveType_156 : decode cX8_moveType 156 = .ok (.goto (-25), 3) := by decide +kernel
theorem dX8_moveType_159 : decode cX8_moveType 159 = .ok (.return_, 1) := by decide +kernel
theorem dX8_moveMember_0 : decode cX8_moveMember 0 = .ok (.aload_n 0, 1) := by decide +kernel
theorem dX8_moveMember_1 : decode cX8_moveMember 1 = .ok (.getfield 44, 3) := by decide +kernel
theorem dX8_moveMember_4 : decode cX8_moveMember 4 = .ok (.iload_n 2, 1) := by decide +kernel
theorem dX8_moveMember_5 : decode cX8_moveMember 5 = .ok (.aload_n 0, 1) := by decide +kernel
theorem dX8_moveMember_6 : decode cX8_moveMember 6 = .ok (.getfield 44, 3) := by decide +kernel
theorem dX8_moveMember_9 : decode cX8_moveMember 9 = .ok (.iload_n 1, 1) := by decide +kernel
theorem dX8_moveMember_10 : decode cX8_moveMember 10 = .ok (.iaload, 1) := by decide +kernel
theorem dX8_moveMember_11 : decode cX8_moveMember 11 = .ok (.iastore, 1) := by decide +kernel
theorem dX8_moveMember_12 : decode cX8_moveMember 12 = .ok (.aload_n 0, 1) := by decide +kernel
theorem dX8_moveMember_13 : decode cX8_moveMember 13 = .ok (.getfield 47, 3) := by decide +kernel
theorem dX8_moveMember_16 : decode cX8_moveMember 16 = .ok (.iload_n 2, 1) := by decide +kernel
theorem dX8_moveMember_17 : decode cX8_moveMember 17 = .ok (.aload_n 0, 1) := by decide +kernel
theorem dX8_moveMember_18 : decode cX8_moveMember 18 = .ok (.getfield 47, 3) := by decide +kernel
theorem dX8_moveMember_21 : decode cX8_moveMember 21 = .ok (.iload_n 1, 1) := by decide +kernel
theorem dX8_moveMember_22 : decode cX8_moveMember 22 = .ok (.iaload, 1) := by decide +kernel
theorem dX8_moveMember_23 : decode cX8_moveMember 23 = .ok (.iastore, 1) := by decide +kernel
theorem dX8_moveMember_24 : decode cX8_moveMember 24 = .ok (.aload_n 0, 1) := by decide +kernel
theorem dX8_moveMember_25 : decode cX8_moveMember 25 = .ok (.getfield 50, 3) := by decide +kernel
theorem dX8_moveMember_28 : decode cX8_moveMember 28 = .ok (.iload_n 2, 1) := by decide +kernel
theorem dX8_moveMember_29 : decode cX8_moveMember 29 = .ok (.aload_n 0, 1) := by decide +kernel
theorem dX8_moveMember_30 : decode cX8_moveMember 30 = .ok (.getfield 50, 3) := by decide +kernel
theorem dX8_moveMember_33 : decode cX8_moveMember 33 = .ok (.iload_n 1, 1) := by decide +kernel
theorem dX8_moveMember_34 : decode cX8_moveMember 34 = .ok (.iaload, 1) := by decide +kernel
theorem dX8_moveMember_35 : decode cX8_moveMember 35 = .ok (.iastore, 1) := by decide +kernel
theorem dX8_moveMember_36 : decode cX8_moveMember 36 = .ok (.aload_n 0, 1) := by decide +kernel
theorem dX8_moveMember_37 : decode cX8_moveMember 37 = .ok (.getfield 53, 3) := by decide +kernel
theorem dX8_moveMember_40 : decode cX8_moveMember 40 = .ok (.iload_n 2, 1) := by decide +kernel
theorem dX8_moveMember_41 : decode cX8_moveMember 41 = .ok (.aload_n 0, 1) := by decide +kernel
theorem dX8_moveMember_42 : decode cX8_moveMember 42 = .ok (.getfield 53, 3) := by decide +kernel
theorem dX8_moveMember_45 : decode cX8_moveMember 45 = .ok (.iload_n 1, 1) := by decide +kernel
theorem dX8_moveMember_46 : decode cX8_moveMember 46 = .ok (.iaload, 1) := by decide +kernel
theorem dX8_moveMember_47 : decode cX8_moveMember 47 = .ok (.iastore, 1) := by decide +kernel
theorem dX8_moveMember_48 : decode cX8_moveMember 48 = .ok (.aload_n 0, 1) := by decide +kernel
theorem dX8_moveMember_49 : decode cX8_moveMember 49 = .ok (.getfield 56, 3) := by decide +kernel
theorem dX8_moveMember_52 : decode cX8_moveMember 52 = .ok (.iload_n 2, 1) := by decide +kernel
theorem dX8_moveMember_53 : decode cX8_moveMember 53 = .ok (.aload_n 0, 1) := by decide +kernel
theorem dX8_moveMember_54 : decode cX8_moveMember 54 = .ok (.getfield 56, 3) := by decide +kernel
theorem dX8_moveMember_57 : decode cX8_moveMember 57 = .ok (.iload_n 1, 1) := by decide +kernel
theorem dX8_moveMember_58 : decode cX8_moveMember 58 = .ok (.baload, 1) := by decide +kernel
theorem dX8_moveMember_59 : decode cX8_moveMember 59 = .ok (.bastore, 1) := by decide +kernel
theorem dX8_moveMember_60 : decode cX8_moveMember 60 = .ok (.aload_n 0, 1) := by decide +kernel
theorem dX8_moveMember_61 : decode cX8_moveMember 61 = .ok (.getfield 59, 3) := by decide +kernel
theorem dX8_moveMember_64 : decode cX8_moveMember 64 = .ok (.iload_n 2, 1) := by decide +kernel
theorem dX8_moveMember_65 : decode cX8_moveMember 65 = .ok (.aload_n 0, 1) := by decide +kernel
theorem dX8_moveMember_66 : decode cX8_moveMember 66 = .ok (.getfield 59, 3) := by decide +kernel
theorem dX8_moveMember_69 : decode cX8_moveMember 69 = .ok (.iload_n 1, 1) := by decide +kernel
theorem dX8_moveMember_70 : decode cX8_moveMember 70 = .ok (.iaload, 1) := by decide +kernel
theorem dX8_moveMember_71 : decode cX8_moveMember 71 = .ok (.iastore, 1) := by decide +kernel
theorem dX8_moveMember_72 : decode cX8_moveMember 72 = .ok (.aload_n 0, 1) := by decide +kernel
theorem dX8_moveMember_73 : decode cX8_moveMember 73 = .ok (.getfield 62, 3) := by decide +kernel
theorem dX8_moveMember_76 : decode cX8_moveMember 76 = .ok (.iload_n 2, 1) := by decide +kernel
theorem dX8_moveMember_77 : decode cX8_moveMember 77 = .ok (.aload_n 0, 1) := by decide +kernel
theorem dX8_moveMember_78 : decode cX8_moveMember 78 = .ok (.getfield 62, 3) := by decide +kernel
theorem dX8_moveMember_81 : decode cX8_moveMember 81 = .ok (.iload_n 1, 1) := by decide +kernel
theorem dX8_moveMember_82 : decode cX8_moveMember 82 = .ok (.baload, 1) := by decide +kernel
theorem dX8_moveMember_83 : decode cX8_moveMember 83 = .ok (.bastore, 1) := by decide +kernel
theorem dX8_moveMember_84 : decode cX8_moveMember 84 = .ok (.return_, 1) := by decide +kernel
theorem dX8_openFault_0 : decode cX8_openFault 0 = .ok (.aload_n 0, 1) := by decide +kernel
theorem dX8_openFault_1 : decode cX8_openFault 1 = .ok (.iload_n 1, 1) := by decide +kernel
theorem dX8_openFault_2 : decode cX8_openFault 2 = .ok (.invokevirtual 132, 3) := by decide +kernel
theorem dX8_openFault_5 : decode cX8_openFault 5 = .ok (.ifCond .ne 7, 3) := by decide +kernel
theorem dX8_openFault_8 : decode cX8_openFault 8 = .ok (.iconst 1, 1) := by decide +kernel
theorem dX8_openFault_9 : decode cX8_openFault 9 = .ok (.goto 17, 3) := by decide +kernel
theorem dX8_openFault_12 : decode cX8_openFault 12 = .ok (.aload_n 0, 1) := by decide +kernel
theorem dX8_openFault_13 : decode cX8_openFault 13 = .ok (.getfield 7, 3) := by decide +kernel
theorem dX8_openFault_16 : decode cX8_openFault 16 = .ok (.iload_n 1, 1) := by decide +kernel
theorem dX8_openFault_17 : decode cX8_openFault 17 = .ok (.baload, 1) := by decide +kernel
theorem dX8_openFault_18 : decode cX8_openFault 18 = .ok (.ifCond .eq 7, 3) := by decide +kernel
theorem dX8_openFault_21 : decode cX8_openFault 21 = .ok (.iconst 2, 1) := by decide +kernel
theorem dX8_openFault_22 : decode cX8_openFault 22 = .ok (.goto 4, 3) := by decide +kernel
theorem dX8_openFault_25 : decode cX8_openFault 25 = .ok (.iconst 0, 1) := by decide +kernel
theorem dX8_openFault_26 : decode cX8_openFault 26 = .ok (.ireturn, 1) := by decide +kernel
theorem dX8_sealedFault_0 : decode cX8_sealedFault 0 = .ok (.aload_n 0, 1) := by decide +kernel
theorem dX8_sealedFault_1 : decode cX8_sealedFault 1 = .ok (.iload_n 1, 1) := by decide +kernel
theorem dX8_sealedFault_2 : decode cX8_sealedFault 2 = .ok (.invokevirtual 132, 3) := by decide +kernel
theorem dX8_sealedFault_5 : decode cX8_sealedFault 5 = .ok (.ifCond .ne 7, 3) := by decide +kernel
theorem dX8_sealedFault_8 : decode cX8_sealedFault 8 = .ok (.iconst 1, 1) := by decide +kernel
theorem dX8_sealedFault_9 : decode cX8_sealedFault 9 = .ok (.goto 17, 3) := by decide +kernel
theorem dX8_sealedFault_12 : decode cX8_sealedFault 12 = .ok (.aload_n 0, 1) := by decide +kernel
theorem dX8_sealedFault_13 : decode cX8_sealedFault 13 = .ok (.getfield 7, 3) := by decide +kernel
theorem dX8_sealedFault_16 : decode cX8_sealedFault 16 = .ok (.iload_n 1, 1) := by decide +kernel
theorem dX8_sealedFault_17 : decode cX8_sealedFault 17 = .ok (.baload, 1) := by decide +kernel
theorem dX8_sealedFault_18 : decode cX8_sealedFault 18 = .ok (.ifCond .ne 7, 3) := by decide +kernel
theorem dX8_sealedFault_21 : decode cX8_sealedFault 21 = .ok (.iconst 2, 1) := by decide +kernel
theorem dX8_sealedFault_22 : decode cX8_sealedFault 22 = .ok (.goto 4, 3) := by decide +kernel
theorem dX8_sealedFault_25 : decode cX8_sealedFault 25 = .ok (.iconst 0, 1) := by decide +kernel
theorem dX8_sealedFault_26 : decode cX8_sealedFault 26 = .ok (.ireturn, 1) := by decide +kernel
theorem dX8_type_0 : decode cX8_type 0 = .ok (.aload_n 0, 1) := by decide +kernel
theorem dX8_type_1 : decode cX8_type 1 = .ok (.aload_n 0, 1) := by decide +kernel
theorem dX8_type_2 : decode cX8_type 2 = .ok (.iload_n 1, 1) := by decide +kernel
theorem dX8_type_3 : decode cX8_type 3 = .ok (.invokevirtual 143, 3) := by decide +kernel
theorem dX8_type_6 : decode cX8_type 6 = .ok (.putfield 122, 3) := by decide +kernel
theorem dX8_type_9 : decode cX8_type 9 = .ok (.aload_n 0, 1) := by decide +kernel
theorem dX8_type_10 : decode cX8_type 10 = .ok (.getfield 122, 3) := by decide +kernel
theorem dX8_type_13 : decode cX8_type 13 = .ok (.ifCond .le 5, 3) := by decide +kernel
theorem dX8_type_16 : decode cX8_type 16 = .ok (.iconst 0, 1) := by decide +kernel
theorem dX8_type_17 : decode cX8_type 17 = .ok (.ireturn, 1) := by decide +kernel
theorem dX8_type_18 : decode cX8_type 18 = .ok (.iload_n 2, 1) := by decide +kernel
theorem dX8_type_19 : decode cX8_type 19 = .ok (.iconst 0, 1) := by decide +kernel
theorem dX8_type_20 : decode cX8_type 20 = .ok (.bipush 15, 2) := by decide +kernel
theorem dX8_type_22 : decode cX8_type 22 = .ok (.invokestatic 147, 3) := by decide +kernel
theorem dX8_type_25 : decode cX8_type 25 = .ok (.ifCond .eq 38, 3) := by decide +kernel
theorem dX8_type_28 : decode cX8_type 28 = .ok (.iload 5, 2) := by decide +kernel
theorem dX8_type_30 : decode cX8_type 30 = .ok (.iconst 0, 1) := by decide +kernel
theorem dX8_type_31 : decode cX8_type 31 = .ok (.iconst 3, 1) := by decide +kernel
theorem dX8_type_32 : decode cX8_type 32 = .ok (.invokestatic 147, 3) := by decide +kernel
theorem dX8_type_35 : decode cX8_type 35 = .ok (.ifCond .eq 28, 3) := by decide +kernel
theorem dX8_type_38 : decode cX8_type 38 = .ok (.iload 7, 2) := by decide +kernel
theorem dX8_type_40 : decode cX8_type 40 = .ok (.iconst (-1), 1) := by decide +kernel
theorem dX8_type_41 : decode cX8_type 41 = .ok (.bipush 15, 2) := by decide +kernel
theorem dX8_type_43 : decode cX8_type 43 = .ok (.invokestatic 147, 3) := by decide +kernel
theorem dX8_type_46 : decode cX8_type 46 = .ok (.ifCond .eq 17, 3) := by decide +kernel
theorem dX8_type_49 : decode cX8_type 49 = .ok (.iload_n 3, 1) := by decide +kernel
theorem dX8_type_50 : decode cX8_type 50 = .ok (.ifCond .eq 9, 3) := by decide +kernel
theorem dX8_type_53 : decode cX8_type 53 = .ok (.iload 7, 2) := by decide +kernel
theorem dX8_type_55 : decode cX8_type 55 = .ok (.iconst (-1), 1) := by decide +kernel
theorem dX8_type_56 : decode cX8_type 56 = .ok (.if_icmp .ne 7, 3) := by decide +kernel
theorem dX8_type_59 : decode cX8_type 59 = .ok (.iconst 1, 1) := by decide +kernel
theorem dX8_type_60 : decode cX8_type 60 = .ok (.goto 4, 3) := by decide +kernel
theorem dX8_type_63 : decode cX8_type 63 = .ok (.iconst 0, 1) := by decide +kernel
theorem dX8_type_64 : decode cX8_type 64 = .ok (.istore 8, 2) := by decide +kernel
theorem dX8_type_66 : decode cX8_type 66 = .ok (.aload_n 0, 1) := by decide +kernel
theorem dX8_type_67 : decode cX8_type 67 = .ok (.iload 8, 2) := by decide +kernel
theorem dX8_type_69 : decode cX8_type 69 = .ok (.ifCond .eq 13, 3) := by decide +kernel
theorem dX8_type_72 : decode cX8_type 72 = .ok (.aload_n 0, 1) := by decide +kernel
theorem dX8_type_73 : decode cX8_type 73 = .ok (.iload_n 1, 1) := by decide +kernel
theorem dX8_type_74 : decode cX8_type 74 = .ok (.iload_n 2, 1) := by decide +kernel
theorem dX8_type_75 : decode cX8_type 75 = .ok (.invokevirtual 151, 3) := by decide +kernel
theorem dX8_type_78 : decode cX8_type 78 = .ok (.iconst (-1), 1) := by decide +kernel
theorem dX8_type_79 : decode cX8_type 79 = .ok (.if_icmp .eq 7, 3) := by decide +kernel
theorem dX8_type_82 : decode cX8_type 82 = .ok (.iconst 3, 1) := by decide +kernel
theorem dX8_type_83 : decode cX8_type 83 = .ok (.goto 19, 3) := by decide +kernel
theorem dX8_type_86 : decode cX8_type 86 = .ok (.aload_n 0, 1) := by decide +kernel
theorem dX8_type_87 : decode cX8_type 87 = .ok (.getfield 13, 3) := by decide +kernel
theorem dX8_type_90 : decode cX8_type 90 = .ok (.iload_n 1, 1) := by decide +kernel
theorem dX8_type_91 : decode cX8_type 91 = .ok (.iaload, 1) := by decide +kernel
theorem dX8_type_92 : decode cX8_type 92 = .ok (.bipush 10, 2) := by decide +kernel
theorem dX8_type_94 : decode cX8_type 94 = .ok (.if_icmp .ne 7, 3) := by decide +kernel
theorem dX8_type_97 : decode cX8_type 97 = .ok (.iconst 4, 1) := by decide +kernel
theorem dX8_type_98 : decode cX8_type 98 = .ok (.goto 4, 3) := by decide +kernel
theorem dX8_type_101 : decode cX8_type 101 = .ok (.iconst 0, 1) := by decide +kernel
theorem dX8_type_102 : decode cX8_type 102 = .ok (.putfield 122, 3) := by decide +kernel
theorem dX8_type_105 : decode cX8_type 105 = .ok (.aload_n 0, 1) := by decide +kernel
theorem dX8_type_106 : decode cX8_type 106 = .ok (.getfield 122, 3) := by decide +kernel
theorem dX8_type_109 : decode cX8_type 109 = .ok (.ifCond .le 5, 3) := by decide +kernel
theorem dX8_type_112 : decode cX8_type 112 = .ok (.iconst 0, 1) := by decide +kernel
theorem dX8_type_113 : decode cX8_type 113 = .ok (.ireturn, 1) := by decide +kernel
theorem dX8_type_114 : decode cX8_type 114 = .ok (.bipush 10, 2) := by decide +kernel
theorem dX8_type_116 : decode cX8_type 116 = .ok (.iload_n 1, 1) := by decide +kernel
theorem dX8_type_117 : decode cX8_type 117 = .ok (.imul, 1) := by decide +kernel
theorem dX8_type_118 : decode cX8_type 118 = .ok (.aload_n 0, 1) := by decide +kernel
theorem dX8_type_119 : decode cX8_type 119 = .ok (.getfield 13, 3) := by decide +kernel
theorem dX8_type_122 : decode cX8_type 122 = .ok (.iload_n 1, 1) := by decide +kernel
theorem dX8_type_123 : decode cX8_type 123 = .ok (.iaload, 1) := by decide +kernel
theorem dX8_type_124 : decode cX8_type 124 = .ok (.iadd, 1) := by decide +kernel
theorem dX8_type_125 : decode cX8_type 125 = .ok (.istore 9, 2) := by decide +kernel
theorem dX8_type_127 : decode cX8_type 127 = .ok (.aload_n 0, 1) := by decide +kernel
theorem dX8_type_128 : decode cX8_type 128 = .ok (.getfield 13, 3) := by decide +kernel
theorem dX8_type_131 : decode cX8_type 131 = .ok (.iload_n 1, 1) := by decide +kernel
theorem dX8_type_132 : decode cX8_type 132 = .ok (.dup2, 1) := by decide +kernel
theorem dX8_type_133 : decode cX8_type 133 = .ok (.iaload, 1) := by decide +kernel
theorem dX8_type_134 : decode cX8_type 134 = .ok (.iconst 1, 1) := by decide +kernel
theorem dX8_type_135 : decode cX8_type 135 = .ok (.iadd, 1) := by decide +kernel
theorem dX8_type_136 : decode cX8_type 136 = .ok (.iastore, 1) := by decide +kernel
theorem dX8_type_137 : decode cX8_type 137 = .ok (.aload_n 0, 1) := by decide +kernel
theorem dX8_type_138 : decode cX8_type 138 = .ok (.getfield 17, 3) := by decide +kernel
theorem dX8_type_141 : decode cX8_type 141 = .ok (.iload 9, 2) := by decide +kernel
theorem dX8_type_143 : decode cX8_type 143 = .ok (.iload_n 2, 1) := by decide +kernel
theorem dX8_type_144 : decode cX8_type 144 = .ok (.iastore, 1) := by decide +kernel
theorem dX8_type_145 : decode cX8_type 145 = .ok (.aload_n 0, 1) := by decide +kernel
theorem dX8_type_146 : decode cX8_type 146 = .ok (.getfield 20, 3) := by decide +kernel
theorem dX8_type_149 : decode cX8_type 149 = .ok (.iload 9, 2) := by decide +kernel
theorem dX8_type_151 : decode cX8_type 151 = .ok (.iload_n 3, 1) := by decide +kernel
theorem dX8_type_152 : decode cX8_type 152 = .ok (.bastore, 1) := by decide +kernel
theorem dX8_type_153 : decode cX8_type 153 = .ok (.aload_n 0, 1) := by decide +kernel
theorem dX8_type_154 : decode cX8_type 154 = .ok (.getfield 23, 3) := by decide +kernel
theorem dX8_type_157 : decode cX8_type 157 = .ok (.iload 9, 2) := by decide +kernel
theorem dX8_type_159 : decode cX8_type 159 = .ok (.iload_n 3, 1) := by decide +kernel
theorem dX8_type_160 : decode cX8_type 160 = .ok (.ifCond .ne 8, 3) := by decide +kernel
theorem dX8_type_163 : decode cX8_type 163 = .ok (.iload 4, 2) := by decide +kernel
theorem dX8_type_165 : decode cX8_type 165 = .ok (.ifCond .eq 7, 3) := by decide +kernel
theorem dX8_type_168 : decode cX8_type 168 = .ok (.iconst 1, 1) := by decide +kernel
theorem dX8_type_169 : decode cX8_type 169 = .ok (.goto 4, 3) := by decide +kernel
theorem dX8_type_172 : decode cX8_type 172 = .ok (.iconst 0, 1) := by decide +kernel
theorem dX8_type_173 : decode cX8_type 173 = .ok (.bastore, 1) := by decide +kernel
theorem dX8_type_174 : decode cX8_type 174 = .ok (.aload_n 0, 1) := by decide +kernel
theorem dX8_type_175 : decode cX8_type 175 = .ok (.getfield 26, 3) := by decide +kernel
theorem dX8_type_178 : decode cX8_type 178 = .ok (.iload 9, 2) := by decide +kernel
theorem dX8_type_180 : decode cX8_type 180 = .ok (.iload 5, 2) := by decide +kernel
theorem dX8_type_182 : decode cX8_type 182 = .ok (.iastore, 1) := by decide +kernel
theorem dX8_type_183 : decode cX8_type 183 = .ok (.aload_n 0, 1) := by decide +kernel
theorem dX8_type_184 : decode cX8_type 184 = .ok (.getfield 29, 3) := by decide +kernel
theorem dX8_type_187 : decode cX8_type 187 = .ok (.iload 9, 2) := by decide +kernel
theorem dX8_type_189 : decode cX8_type 189 = .ok (.iload 6, 2) := by decide +kernel
theorem dX8_type_191 : decode cX8_type 191 = .ok (.bastore, 1) := by decide +kernel
theorem dX8_type_192 : decode cX8_type 192 = .ok (.aload_n 0, 1) := by decide +kernel
theorem dX8_type_193 : decode cX8_type 193 = .ok (.getfield 32, 3) := by decide +kernel
theorem dX8_type_196 : decode cX8_type 196 = .ok (.iload 9, 2) := by decide +kernel
theorem dX8_type_198 : decode cX8_type 198 = .ok (.iload 7, 2) := by decide +kernel
theorem dX8_type_200 : decode cX8_type 200 = .ok (.iastore, 1) := by decide +kernel
theorem dX8_type_201 : decode cX8_type 201 = .ok (.aload_n 0, 1) := by decide +kernel
theorem dX8_type_202 : decode cX8_type 202 = .ok (.getfield 35, 3) := by decide +kernel
theorem dX8_type_205 : decode cX8_type 205 = .ok (.iload 9, 2) := by decide +kernel
theorem dX8_type_207 : decode cX8_type 207 = .ok (.iconst 0, 1) := by decide +kernel
theorem dX8_type_208 : decode cX8_type 208 = .ok (.iastore, 1) := by decide +kernel
theorem dX8_type_209 : decode cX8_type 209 = .ok (.aload_n 0, 1) := by decide +kernel
theorem dX8_type_210 : decode cX8_type 210 = .ok (.getfield 41, 3) := by decide +kernel
theorem dX8_type_213 : decode cX8_type 213 = .ok (.iload 9, 2) := by decide +kernel
theorem dX8_type_215 : decode cX8_type 215 = .ok (.iconst 0, 1) := by decide +kernel
theorem dX8_type_216 : decode cX8_type 216 = .ok (.iastore, 1) := by decide +kernel
theorem dX8_type_217 : decode cX8_type 217 = .ok (.aload_n 0, 1) := by decide +kernel
theorem dX8_type_218 : decode cX8_type 218 = .ok (.getfield 13, 3) := by decide +kernel
theorem dX8_type_221 : decode cX8_type 221 = .ok (.iload_n 1, 1) := by decide +kernel
theorem dX8_type_222 : decode cX8_type 222 = .ok (.iaload, 1) := by decide +kernel
theorem dX8_type_223 : decode cX8_type 223 = .ok (.ireturn, 1) := by decide +kernel
theorem dX8_implement_0 : decode cX8_implement 0 = .ok (.aload_n 0, 1) := by decide +kernel
theorem dX8_implement_1 : decode cX8_implement 1 = .ok (.aload_n 0, 1) := by decide +kernel
theorem dX8_implement_2 : decode cX8_implement 2 = .ok (.iload_n 1, 1) := by decide +kernel
theorem dX8_implement_3 : decode cX8_implement 3 = .ok (.invokevirtual 143, 3) := by decide +kernel
theorem dX8_implement_6 : decode cX8_implement 6 = .ok (.putfield 122, 3) := by decide +kernel
theorem dX8_implement_9 : decode cX8_implement 9 = .ok (.aload_n 0, 1) := by decide +kernel
theorem dX8_implement_10 : decode cX8_implement 10 = .ok (.getfield 122, 3) := by decide +kernel
theorem dX8_implement_13 : decode cX8_implement 13 = .ok (.ifCond .le 5, 3) := by decide +kernel
theorem dX8_implement_16 : decode cX8_implement 16 = .ok (.iconst 0, 1) := by decide +kernel
theorem dX8_implement_17 : decode cX8_implement 17 = .ok (.ireturn, 1) := by decide +kernel
theorem dX8_implement_18 : decode cX8_implement 18 = .ok (.aload_n 0, 1) := by decide +kernel
theorem dX8_implement_19 : decode cX8_implement 19 = .ok (.iload_n 1, 1) := by decide +kernel
theorem dX8_implement_20 : decode cX8_implement 20 = .ok (.iload_n 2, 1) := by decide +kernel
theorem dX8_implement_21 : decode cX8_implement 21 = .ok (.invokevirtual 151, 3) := by decide +kernel
theorem dX8_implement_24 : decode cX8_implement 24 = .ok (.istore 4, 2) := by decide +kernel
theorem dX8_implement_26 : decode cX8_implement 26 = .ok (.iload 4, 2) := by decide +kernel
theorem dX8_implement_28 : decode cX8_implement 28 = .ok (.iconst (-1), 1) := by decide +kernel
theorem dX8_implement_29 : decode cX8_implement 29 = .ok (.if_icmp .eq 17, 3) := by decide +kernel
theorem dX8_implement_32 : decode cX8_implement 32 = .ok (.iload_n 3, 1) := by decide +kernel
theorem dX8_implement_33 : decode cX8_implement 33 = .ok (.iconst 0, 1) := by decide +kernel
theorem dX8_implement_34 : decode cX8_implement 34 = .ok (.bipush 15, 2) := by decide +kernel
theorem dX8_implement_36 : decode cX8_implement 36 = .ok (.invokestatic 147, 3) := by decide +kernel
theorem dX8_implement_39 : decode cX8_implement 39 = .ok (.ifCond .eq 7, 3) := by decide +kernel
theorem dX8_implement_42 : decode cX8_implement 42 = .ok (.iconst 1, 1) := by decide +kernel
theorem dX8_implement_43 : decode cX8_implement 43 = .ok (.goto 4, 3) := by decide +kernel
theorem dX8_implement_46 : decode cX8_implement 46 = .ok (.iconst 0, 1) := by decide +kernel
theorem dX8_implement_47 : decode cX8_implement 47 = .ok (.istore 5, 2) := by decide +kernel
theorem dX8_implement_49 : decode cX8_implement 49 = .ok (.iconst 0, 1) := by decide +kernel
theorem dX8_implement_50 : decode cX8_implement 50 = .ok (.istore 6, 2) := by decide +kernel
theorem dX8_implement_52 : decode cX8_implement 52 = .ok (.iload 5, 2) := by decide +kernel
theorem dX8_implement_54 : decode cX8_implement 54 = .ok (.ifCond .eq 44, 3) := by decide +kernel
theorem dX8_implement_57 : decode cX8_implement 57 = .ok (.iload 6, 2) := by decide +kernel
theorem dX8_implement_59 : decode cX8_implement 59 = .ok (.aload_n 0, 1) := by decide +kernel
theorem dX8_implement_60 : decode cX8_implement 60 = .ok (.getfield 35, 3) := by decide +kernel
theorem dX8_implement_63 : decode cX8_implement 63 = .ok (.iload 4, 2) := by decide +kernel
theorem dX8_implement_65 : decode cX8_implement 65 = .ok (.iaload, 1) := by decide +kernel
theorem dX8_implement_66 : decode cX8_implement 66 = .ok (.if_icmp .ge 32, 3) := by decide +kernel
theorem dX8_implement_69 : decode cX8_implement 69 = .ok (.aload_n 0, 1) := by decide +kernel
theorem dX8_implement_70 : decode cX8_implement 70 = .ok (.getfield 38, 3) := by decide +kernel
theorem dX8_implement_73 : decode cX8_implement 73 = .ok (.iconst 3, 1) := by decide +kernel
theorem dX8_implement_74 : decode cX8_implement 74 = .ok (.iload 4, 2) := by decide +kernel
theorem dX8_implement_76 : decode cX8_implement 76 = .ok (.imul, 1) := by decide +kernel
theorem dX8_implement_77 : decode cX8_implement 77 = .ok (.iload 6, 2) := by decide +kernel
theorem dX8_implement_79 : decode cX8_implement 79 = .ok (.iadd, 1) := by decide +kernel
theorem dX8_implement_80 : decode cX8_implement 80 = .ok (.iaload, 1) := by decide +kernel
theorem dX8_implement_81 : decode cX8_implement 81 = .ok (.iload_n 3, 1) := by decide +kernel
theorem dX8_implement_82 : decode cX8_implement 82 = .ok (.if_icmp .eq 7, 3) := by decide +kernel
theorem dX8_implement_85 : decode cX8_implement 85 = .ok (.iconst 1, 1) := by decide +kernel
theorem dX8_implement_86 : decode cX8_implement 86 = .ok (.goto 4, 3) := by decide +kernel
theorem dX8_implement_89 : decode cX8_implement 89 = .ok (.iconst 0, 1) := by decide +kernel
theorem dX8_implement_90 : decode cX8_implement 90 = .ok (.istore 5, 2) := by decide +kernel
theorem dX8_implement_92 : decode cX8_implement 92 = .ok (.iinc 6 1, 3) := by decide +kernel
theorem dX8_implement_95 : decode cX8_implement 95 = .ok (.goto (-43), 3) := by decide +kernel
theorem dX8_implement_98 : decode cX8_implement 98 = .ok (.aload_n 0, 1) := by decide +kernel
theorem dX8_implement_99 : decode cX8_implement 99 = .ok (.iload 5, 2) := by decide +kernel
theorem dX8_implement_101 : decode cX8_implement 101 = .ok (.ifCond .ne 7, 3) := by decide +kernel
theorem dX8_implement_104 : decode cX8_implement 104 = .ok (.iconst 3, 1) := by decide +kernel
theorem dX8_implement_105 : decode cX8_implement 105 = .ok (.goto 19, 3) := by decide +kernel
theorem dX8_implement_108 : decode cX8_implement 108 = .ok (.aload_n 0, 1) := by decide +kernel
theorem dX8_implement_109 : decode cX8_implement 109 = .ok (.getfield 35, 3) := by decide +kernel
theorem dX8_implement_112 : decode cX8_implement 112 = .ok (.iload 4, 2) := by decide +kernel
theorem dX8_implement_114 : decode cX8_implement 114 = .ok (.iaload, 1) := by decide +kernel
theorem dX8_implement_115 : decode cX8_implement 115 = .ok (.iconst 3, 1) := by decide +kernel
theorem dX8_implement_116 : decode cX8_implement 116 = .ok (.if_icmp .ne 7, 3) := by decide +kernel
theorem dX8_implement_119 : decode cX8_implement 119 = .ok (.iconst 4, 1) := by decide +kernel
theorem dX8_implement_120 : decode cX8_implement 120 = .ok (.goto 4, 3) := by decide +kernel
theorem dX8_implement_123 : decode cX8_implement 123 = .ok (.iconst 0, 1) := by decide +kernel
theorem dX8_implement_124 : decode cX8_implement 124 = .ok (.putfield 122, 3) := by decide +kernel
theorem dX8_implement_127 : decode cX8_implement 127 = .ok (.aload_n 0, 1) := by decide +kernel
theorem dX8_implement_128 : decode cX8_implement 128 = .ok (.getfield 122, 3) := by decide +kernel
theorem dX8_implement_131 : decode cX8_implement 131 = .ok (.ifCond .le 5, 3) := by decide +kernel
theorem dX8_implement_134 : decode cX8_implement 134 = .ok (.iconst 0, 1) := by decide +kernel
theorem dX8_implement_135 : decode cX8_implement 135 = .ok (.ireturn, 1) := by decide +kernel
theorem dX8_implement_136 : decode cX8_implement 136 = .ok (.aload_n 0, 1) := by decide +kernel
theorem dX8_implement_137 : decode cX8_implement 137 = .ok (.getfield 38, 3) := by decide +kernel
theorem dX8_implement_140 : decode cX8_implement 140 = .ok (.iconst 3, 1) := by decide +kernel
theorem dX8_implement_141 : decode cX8_implement 141 = .ok (.iload 4, 2) := by decide +kernel
theorem dX8_implement_143 : decode cX8_implement 143 = .ok (.imul, 1) := by decide +kernel
theorem dX8_implement_144 : decode cX8_implement 144 = .ok (.aload_n 0, 1) := by decide +kernel
theorem dX8_implement_145 : decode cX8_implement 145 = .ok (.getfield 35, 3) := by decide +kernel
theorem dX8_implement_148 : decode cX8_implement 148 = .ok (.iload 4, 2) := by decide +kernel
theorem dX8_implement_150 : decode cX8_implement 150 = .ok (.iaload, 1) := by decide +kernel
theorem dX8_implement_151 : decode cX8_implement 151 = .ok (.iadd, 1) := by decide +kernel
theorem dX8_implement_152 : decode cX8_implement 152 = .ok (.iload_n 3, 1) := by decide +kernel
theorem dX8_implement_153 : decode cX8_implement 153 = .ok (.iastore, 1) := by decide +kernel
theorem dX8_implement_154 : decode cX8_implement 154 = .ok (.aload_n 0, 1) := by decide +kernel
theorem dX8_implement_155 : decode cX8_implement 155 = .ok (.getfield 35, 3) := by decide +kernel
theorem dX8_implement_158 : decode cX8_implement 158 = .ok (.iload 4, 2) := by decide +kernel
theorem dX8_implement_160 : decode cX8_implement 160 = .ok (.dup2, 1) := by decide +kernel
theorem dX8_implement_161 : decode cX8_implement 161 = .ok (.iaload, 1) := by decide +kernel
theorem dX8_implement_162 : decode cX8_implement 162 = .ok (.iconst 1, 1) := by decide +kernel
theorem dX8_implement_163 : decode cX8_implement 163 = .ok (.iadd, 1) := by decide +kernel
theorem dX8_implement_164 : decode cX8_implement 164 = .ok (.iastore, 1) := by decide +kernel
theorem dX8_implement_165 : decode cX8_implement 165 = .ok (.aload_n 0, 1) := by decide +kernel
theorem dX8_implement_166 : decode cX8_implement 166 = .ok (.getfield 35, 3) := by decide +kernel
theorem dX8_implement_169 : decode cX8_implement 169 = .ok (.iload 4, 2) := by decide +kernel
theorem dX8_implement_171 : decode cX8_implement 171 = .ok (.iaload, 1) := by decide +kernel
theorem dX8_implement_172 : decode cX8_implement 172 = .ok (.ireturn, 1) := by decide +kernel
theorem dX8_member_0 : decode cX8_member 0 = .ok (.aload_n 0, 1) := by decide +kernel
theorem dX8_member_1 : decode cX8_member 1 = .ok (.aload_n 0, 1) := by decide +kernel
theorem dX8_member_2 : decode cX8_member 2 = .ok (.iload_n 1, 1) := by decide +kernel
theorem dX8_member_3 : decode cX8_member 3 = .ok (.invokevirtual 143, 3) := by decide +kernel
theorem dX8_member_6 : decode cX8_member 6 = .ok (.putfield 122, 3) := by decide +kernel
theorem dX8_member_9 : decode cX8_member 9 = .ok (.aload_n 0, 1) := by decide +kernel
theorem dX8_member_10 : decode cX8_member 10 = .ok (.getfield 122, 3) := by decide +kernel
theorem dX8_member_13 : decode cX8_member 13 = .ok (.ifCond .le 5, 3) := by decide +kernel
theorem dX8_member_16 : decode cX8_member 16 = .ok (.iconst 0, 1) := by decide +kernel
theorem dX8_member_17 : decode cX8_member 17 = .ok (.ireturn, 1) := by decide +kernel
theorem dX8_member_18 : decode cX8_member 18 = .ok (.aload_n 0, 1) := by decide +kernel
theorem dX8_member_19 : decode cX8_member 19 = .ok (.iload_n 1, 1) := by decide +kernel
theorem dX8_member_20 : decode cX8_member 20 = .ok (.iload_n 2, 1) := by decide +kernel
theorem dX8_member_21 : decode cX8_member 21 = .ok (.invokevirtual 151, 3) := by decide +kernel
theorem dX8_member_24 : decode cX8_member 24 = .ok (.istore 9, 2) := by decide +kernel
theorem dX8_member_26 : decode cX8_member 26 = .ok (.iload_n 3, 1) := by decide +kernel
theorem dX8_member_27 : decode cX8_member 27 = .ok (.iconst 1, 1) := by decide +kernel
theorem dX8_member_28 : decode cX8_member 28 = .ok (.if_icmp .ne 7, 3) := by decide +kernel
theorem dX8_member_31 : decode cX8_member 31 = .ok (.iconst 1, 1) := by decide +kernel
theorem dX8_member_32 : decode cX8_member 32 = .ok (.goto 4, 3) := by decide +kernel
theorem dX8_member_35 : decode cX8_member 35 = .ok (.iconst 0, 1) := by decide +kernel
theorem dX8_member_36 : decode cX8_member 36 = .ok (.istore 10, 2) := by decide +kernel
theorem dX8_member_38 : decode cX8_member 38 = .ok (.iload 9, 2) := by decide +kernel
theorem dX8_member_40 : decode cX8_member 40 = .ok (.iconst (-1), 1) := by decide +kernel
theorem dX8_member_41 : decode cX8_member 41 = .ok (.if_icmp .eq 67, 3) := by decide +kernel
theorem dX8_member_44 : decode cX8_member 44 = .ok (.iload_n 3, 1) := by decide +kernel
theorem dX8_member_45 : decode cX8_member 45 = .ok (.iconst 0, 1) := by decide +kernel
theorem dX8_member_46 : decode cX8_member 46 = .ok (.iconst 2, 1) := by decide +kernel
theorem dX8_member_47 : decode cX8_member 47 = .ok (.invokestatic 147, 3) := by decide +kernel
theorem dX8_member_50 : decode cX8_member 50 = .ok (.ifCond .eq 58, 3) := by decide +kernel
theorem dX8_member_53 : decode cX8_member 53 = .ok (.iload 4, 2) := by decide +kernel
theorem dX8_member_55 : decode cX8_member 55 = .ok (.iconst 0, 1) := by decide +kernel
theorem dX8_member_56 : decode cX8_member 56 = .ok (.bipush 15, 2) := by decide +kernel
theorem dX8_member_58 : decode cX8_member 58 = .ok (.invokestatic 147, 3) := by decide +kernel
theorem dX8_member_61 : decode cX8_member 61 = .ok (.ifCond .eq 47, 3) := by decide +kernel
theorem dX8_member_64 : decode cX8_member 64 = .ok (.iload 5, 2) := by decide +kernel
theorem dX8_member_66 : decode cX8_member 66 = .ok (.iconst 0, 1) := by decide +kernel
theorem dX8_member_67 : decode cX8_member 67 = .ok (.iconst 3, 1) := by decide +kernel
theorem dX8_member_68 : decode cX8_member 68 = .ok (.invokestatic 147, 3) := by decide +kernel
theorem dX8_member_71 : decode cX8_member 71 = .ok (.ifCond .eq 37, 3) := by decide +kernel
theorem dX8_member_74 : decode cX8_member 74 = .ok (.iload 6, 2) := by decide +kernel
theorem dX8_member_76 : decode cX8_member 76 = .ok (.iconst 0, 1) := by decide +kernel
theorem dX8_member_77 : decode cX8_member 77 = .ok (.iconst 3, 1) := by decide +kernel
theorem dX8_member_78 : decode cX8_member 78 = .ok (.invokestatic 147, 3) := by decide +kernel
theorem dX8_member_81 : decode cX8_member 81 = .ok (.ifCond .eq 27, 3) := by decide +kernel
theorem dX8_member_84 : decode cX8_member 84 = .ok (.iload 8, 2) := by decide +kernel
theorem dX8_member_86 : decode cX8_member 86 = .ok (.iload 10, 2) := by decide +kernel
theorem dX8_member_88 : decode cX8_member 88 = .ok (.ifCond .eq 7, 3) := by decide +kernel
theorem dX8_member_91 : decode cX8_member 91 = .ok (.iconst (-1), 1) := by decide +kernel
theorem dX8_member_92 : decode cX8_member 92 = .ok (.goto 4, 3) := by decide +kernel
theorem dX8_member_95 : decode cX8_member 95 = .ok (.iconst 0, 1) := by decide +kernel
theorem dX8_member_96 : decode cX8_member 96 = .ok (.bipush 9, 2) := by decide +kernel
theorem dX8_member_98 : decode cX8_member 98 = .ok (.invokestatic 147, 3) := by decide +kernel
theorem dX8_member_101 : decode cX8_member 101 = .ok (.ifCond .eq 7, 3) := by decide +kernel
theorem dX8_member_104 : decode cX8_member 104 = .ok (.iconst 1, 1) := by decide +kernel
theorem dX8_member_105 : decode cX8_member 105 = .ok (.goto 4, 3) := by decide +kernel
theorem dX8_member_108 : decode cX8_member 108 = .ok (.iconst 0, 1) := by decide +kernel
theorem dX8_member_109 : decode cX8_member 109 = .ok (.istore 11, 2) := by decide +kernel
theorem dX8_member_111 : decode cX8_member 111 = .ok (.iload 11, 2) := by decide +kernel
theorem dX8_member_113 : decode cX8_member 113 = .ok (.ifCond .eq 31, 3) := by decide +kernel
theorem dX8_member_116 : decode cX8_member 116 = .ok (.iload 10, 2) := by decide +kernel
theorem dX8_member_118 : decode cX8_member 118 = .ok (.ifCond .eq 26, 3) := by decide +kernel
theorem dX8_member_121 : decode cX8_member 121 = .ok (.iload 8, 2) := by decide +kernel
theorem dX8_member_123 : decode cX8_member 123 = .ok (.iconst (-1), 1) := by decide +kernel
theorem dX8_member_124 : decode cX8_member 124 = .ok (.if_icmp .ne 20, 3) := by decide +kernel
theorem dX8_member_127 : decode cX8_member 127 = .ok (.iload 7, 2) := by decide +kernel
theorem dX8_member_129 : decode cX8_member 129 = .ok (.ifCond .ne 12, 3) := by decide +kernel
theorem dX8_member_132 : decode cX8_member 132 = .ok (.iload 6, 2) := by decide +kernel
theorem dX8_member_134 : decode cX8_member 134 = .ok (.ifCond .le 7, 3) := by decide +kernel
theorem dX8_member_137 : decode cX8_member 137 = .ok (.iconst 1, 1) := by decide +kernel
theorem dX8_member_138 : decode cX8_member 138 = .ok (.goto 4, 3) := by decide +kernel
theorem dX8_member_141 : decode cX8_member 141 = .ok (.iconst 0, 1) := by decide +kernel
theorem dX8_member_142 : decode cX8_member 142 = .ok (.istore 11, 2) := by decide +kernel
theorem dX8_member_144 : decode cX8_member 144 = .ok (.iload 11, 2) := by decide +kernel
theorem dX8_member_146 : decode cX8_member 146 = .ok (.ifCond .eq 12, 3) := by decide +kernel
theorem dX8_member_149 : decode cX8_member 149 = .ok (.iload_n 3, 1) := by decide +kernel
theorem dX8_member_150 : decode cX8_member 150 = .ok (.iconst 2, 1) := by decide +kernel
theorem dX8_member_151 : decode cX8_member 151 = .ok (.if_icmp .ne 7, 3) := by decide +kernel
theorem dX8_member_154 : decode cX8_member 154 = .ok (.iload 7, 2) := by decide +kernel
theorem dX8_member_156 : decode cX8_member 156 = .ok (.istore 11, 2) := by decide +kernel
theorem dX8_member_158 : decode cX8_member 158 = .ok (.iload 11, 2) := by decide +kernel
theorem dX8_member_160 : decode cX8_member 160 = .ok (.ifCond .eq 36, 3) := by decide +kernel
theorem dX8_member_163 : decode cX8_member 163 = .ok (.aload_n 0, 1) := by decide +kernel
theorem dX8_member_164 : decode cX8_member 164 = .ok (.getfield 20, 3) := by decide +kernel
theorem dX8_member_167 : decode cX8_member 167 = .ok (.iload 9, 2) := by decide +kernel
theorem dX8_member_169 : decode cX8_member 169 = .ok (.baload, 1) := by decide +kernel
theorem dX8_member_170 : decode cX8_member 170 = .ok (.ifCond .eq 26, 3) := by decide +kernel
theorem dX8_member_173 : decode cX8_member 173 = .ok (.iload 6, 2) := by decide +kernel
theorem dX8_member_175 : decode cX8_member 175 = .ok (.iconst 3, 1) := by decide +kernel
theorem dX8_member_176 : decode cX8_member 176 = .ok (.if_icmp .ne 17, 3) := by decide +kernel
theorem dX8_member_179 : decode cX8_member 179 = .ok (.iload 10, 2) := by decide +kernel
theorem dX8_member_181 : decode cX8_member 181 = .ok (.ifCond .ne 8, 3) := by decide +kernel
theorem dX8_member_184 : decode cX8_member 184 = .ok (.iload 7, 2) := by decide +kernel
theorem dX8_member_186 : decode cX8_member 186 = .ok (.ifCond .eq 7, 3) := by decide +kernel
theorem dX8_member_189 : decode cX8_member 189 = .ok (.iconst 1, 1) := by decide +kernel
theorem dX8_member_190 : decode cX8_member 190 = .ok (.goto 4, 3) := by decide +kernel
theorem dX8_member_193 : decode cX8_member 193 = .ok (.iconst 0, 1) := by decide +kernel
theorem dX8_member_194 : decode cX8_member 194 = .ok (.istore 11, 2) := by decide +kernel
theorem dX8_member_196 : decode cX8_member 196 = .ok (.iload 11, 2) := by decide +kernel
theorem dX8_member_198 : decode cX8_member 198 = .ok (.ifCond .eq 34, 3) := by decide +kernel
theorem dX8_member_201 : decode cX8_member 201 = .ok (.aload_n 0, 1) := by decide +kernel
theorem dX8_member_202 : decode cX8_member 202 = .ok (.iload 9, 2) := by decide +kernel
theorem dX8_member_204 : decode cX8_member 204 = .ok (.iload 10, 2) := by decide +kernel
theorem dX8_member_206 : decode cX8_member 206 = .ok (.ifCond .eq 7, 3) := by decide +kernel
theorem dX8_member_209 : decode cX8_member 209 = .ok (.iconst 1, 1) := by decide +kernel
theorem dX8_member_210 : decode cX8_member 210 = .ok (.goto 4, 3) := by decide +kernel
theorem dX8_member_213 : decode cX8_member 213 = .ok (.iconst 0, 1) := by decide +kernel
theorem dX8_member_214 : decode cX8_member 214 = .ok (.iload 4, 2) := by decide +kernel
theorem dX8_member_216 : decode cX8_member 216 = .ok (.iload 5, 2) := by decide +kernel
theorem dX8_member_218 : decode cX8_member 218 = .ok (.invokevirtual 155, 3) := by decide +kernel
theorem dX8_member_221 : decode cX8_member 221 = .ok (.iconst (-1), 1) := by decide +kernel
theorem dX8_member_222 : decode cX8_member 222 = .ok (.if_icmp .ne 7, 3) := by decide +kernel
theorem dX8_member_225 : decode cX8_member 225 = .ok (.iconst 1, 1) := by decide +kernel
theorem dX8_member_226 : decode cX8_member 226 = .ok (.goto 4, 3) := by decide +kernel
theorem dX8_member_229 : decode cX8_member 229 = .ok (.iconst 0, 1) := by decide +kernel
theorem dX8_member_230 : decode cX8_member 230 = .ok (.istore 11, 2) := by decide +kernel
theorem dX8_member_232 : decode cX8_member 232 = .ok (.aload_n 0, 1) := by decide +kernel
theorem dX8_member_233 : decode cX8_member 233 = .ok (.iload 11, 2) := by decide +kernel
theorem dX8_member_235 : decode cX8_member 235 = .ok (.ifCond .ne 7, 3) := by decide +kernel
theorem dX8_member_238 : decode cX8_member 238 = .ok (.iconst 3, 1) := by decide +kernel
theorem dX8_member_239 : decode cX8_member 239 = .ok (.goto 20, 3) := by decide +kernel
theorem dX8_member_242 : decode cX8_member 242 = .ok (.aload_n 0, 1) := by decide +kernel
theorem dX8_member_243 : decode cX8_member 243 = .ok (.getfield 41, 3) := by decide +kernel
theorem dX8_member_246 : decode cX8_member 246 = .ok (.iload 9, 2) := by decide +kernel
theorem dX8_member_248 : decode cX8_member 248 = .ok (.iaload, 1) := by decide +kernel
theorem dX8_member_249 : decode cX8_member 249 = .ok (.bipush 6, 2) := by decide +kernel
theorem dX8_member_251 : decode cX8_member 251 = .ok (.if_icmp .ne 7, 3) := by decide +kernel
theorem dX8_member_254 : decode cX8_member 254 = .ok (.iconst 4, 1) := by decide +kernel
theorem dX8_member_255 : decode cX8_member 255 = .ok (.goto 4, 3) := by decide +kernel
theorem dX8_member_258 : decode cX8_member 258 = .ok (.iconst 0, 1) := by decide +kernel
theorem dX8_member_259 : decode cX8_member 259 = .ok (.putfield 122, 3) := by decide +kernel
theorem dX8_member_262 : decode cX8_member 262 = .ok (.aload_n 0, 1) := by decide +kernel
theorem dX8_member_263 : decode cX8_member 263 = .ok (.getfield 122, 3) := by decide +kernel
theorem dX8_member_266 : decode cX8_member 266 = .ok (.ifCond .le 5, 3) := by decide +kernel
theorem dX8_member_269 : decode cX8_member 269 = .ok (.iconst 0, 1) := by decide +kernel
theorem dX8_member_270 : decode cX8_member 270 = .ok (.ireturn, 1) := by decide +kernel
theorem dX8_member_271 : decode cX8_member 271 = .ok (.bipush 6, 2) := by decide +kernel
theorem dX8_member_273 : decode cX8_member 273 = .ok (.iload 9, 2) := by decide +kernel
theorem dX8_member_275 : decode cX8_member 275 = .ok (.imul, 1) := by decide +kernel
theorem dX8_member_276 : decode cX8_member 276 = .ok (.aload_n 0, 1) := by decide +kernel
theorem dX8_member_277 : decode cX8_member 277 = .ok (.getfield 41, 3) := by decide +kernel
theorem dX8_member_280 : decode cX8_member 280 = .ok (.iload 9, 2) := by decide +kernel
theorem dX8_member_282 : decode cX8_member 282 = .ok (.iaload, 1) := by decide +kernel
theorem dX8_member_283 : decode cX8_member 283 = .ok (.iadd, 1) := by decide +kernel
theorem dX8_member_284 : decode cX8_member 284 = .ok (.istore 12, 2) := by decide +kernel
theorem dX8_member_286 : decode cX8_member 286 = .ok (.aload_n 0, 1) := by decide +kernel
theorem dX8_member_287 : decode cX8_member 287 = .ok (.getfield 41, 3) := by decide +kernel
theorem dX8_member_290 : decode cX8_member 290 = .ok (.iload 9, 2) := by decide +kernel
theorem dX8_member_292 : decode cX8_member 292 = .ok (.dup2, 1) := by decide +kernel
theorem dX8_member_293 : decode cX8_member 293 = .ok (.iaload, 1) := by decide +kernel
theorem dX8_member_294 : decode cX8_member 294 = .ok (.iconst 1, 1) := by decide +kernel
theorem dX8_member_295 : decode cX8_member 295 = .ok (.iadd, 1) := by decide +kernel
theorem dX8_member_296 : decode cX8_member 296 = .ok (.iastore, 1) := by decide +kernel
theorem dX8_member_297 : decode cX8_member 297 = .ok (.aload_n 0, 1) := by decide +kernel
theorem dX8_member_298 : decode cX8_member 298 = .ok (.getfield 44, 3) := by decide +kernel
theorem dX8_member_301 : decode cX8_member 301 = .ok (.iload 12, 2) := by decide +kernel
theorem dX8_member_303 : decode cX8_member 303 = .ok (.iload 10, 2) := by decide +kernel
theorem dX8_member_305 : decode cX8_member 305 = .ok (.ifCond .eq 7, 3) := by decide +kernel
theorem dX8_member_308 : decode cX8_member 308 = .ok (.iconst 1, 1) := by decide +kernel
theorem dX8_member_309 : decode cX8_member 309 = .ok (.goto 4, 3) := by decide +kernel
theorem dX8_member_312 : decode cX8_member 312 = .ok (.iconst 0, 1) := by decide +kernel
theorem dX8_member_313 : decode cX8_member 313 = .ok (.iastore, 1) := by decide +kernel
theorem dX8_member_314 : decode cX8_member 314 = .ok (.aload_n 0, 1) := by decide +kernel
theorem dX8_member_315 : decode cX8_member 315 = .ok (.getfield 47, 3) := by decide +kernel
theorem dX8_member_318 : decode cX8_member 318 = .ok (.iload 12, 2) := by decide +kernel
theorem dX8_member_320 : decode cX8_member 320 = .ok (.iload 4, 2) := by decide +kernel
theorem dX8_member_322 : decode cX8_member 322 = .ok (.iastore, 1) := by decide +kernel
theorem dX8_member_323 : decode cX8_member 323 = .ok (.aload_n 0, 1) := by decide +kernel
theorem dX8_member_324 : decode cX8_member 324 = .ok (.getfield 50, 3) := by decide +kernel
theorem dX8_member_327 : decode cX8_member 327 = .ok (.iload 12, 2) := by decide +kernel
theorem dX8_member_329 : decode cX8_member 329 = .ok (.iload 5, 2) := by decide +kernel
theorem dX8_member_331 : decode cX8_member 331 = .ok (.iastore, 1) := by decide +kernel
theorem dX8_member_332 : decode cX8_member 332 = .ok (.aload_n 0, 1) := by decide +kernel
theorem dX8_member_333 : decode cX8_member 333 = .ok (.getfield 53, 3) := by decide +kernel
theorem dX8_member_336 : decode cX8_member 336 = .ok (.iload 12, 2) := by decide +kernel
theorem dX8_member_338 : decode cX8_member 338 = .ok (.iload 6, 2) := by decide +kernel
theorem dX8_member_340 : decode cX8_member 340 = .ok (.iastore, 1) := by decide +kernel
theorem dX8_member_341 : decode cX8_member 341 = .ok (.aload_n 0, 1) := by decide +kernel
theorem dX8_member_342 : decode cX8_member 342 = .ok (.getfield 56, 3) := by decide +kernel
theorem dX8_member_345 : decode cX8_member 345 = .ok (.iload 12, 2) := by decide +kernel
theorem dX8_member_347 : decode cX8_member 347 = .ok (.iload 7, 2) := by decide +kernel
theorem dX8_member_349 : decode cX8_member 349 = .ok (.bastore, 1) := by decide +kernel
theorem dX8_member_350 : decode cX8_member 350 = .ok (.aload_n 0, 1) := by decide +kernel
theorem dX8_member_351 : decode cX8_member 351 = .ok (.getfield 59, 3) := by decide +kernel
theorem dX8_member_354 : decode cX8_member 354 = .ok (.iload 12, 2) := by decide +kernel
theorem dX8_member_356 : decode cX8_member 356 = .ok (.iload 8, 2) := by decide +kernel
theorem dX8_member_358 : decode cX8_member 358 = .ok (.iastore, 1) := by decide +kernel
theorem dX8_member_359 : decode cX8_member 359 = .ok (.aload_n 0, 1) := by decide +kernel
theorem dX8_member_360 : decode cX8_member 360 = .ok (.getfield 62, 3) := by decide +kernel
theorem dX8_member_363 : decode cX8_member 363 = .ok (.iload 12, 2) := by decide +kernel
theorem dX8_member_365 : decode cX8_member 365 = .ok (.iload_n 3, 1) := by decide +kernel
theorem dX8_member_366 : decode cX8_member 366 = .ok (.iconst 2, 1) := by decide +kernel
theorem dX8_member_367 : decode cX8_member 367 = .ok (.if_icmp .ne 7, 3) := by decide +kernel
theorem dX8_member_370 : decode cX8_member 370 = .ok (.iconst 1, 1) := by decide +kernel
theorem dX8_member_371 : decode cX8_member 371 = .ok (.goto 4, 3) := by decide +kernel
theorem dX8_member_374 : decode cX8_member 374 = .ok (.iconst 0, 1) := by decide +kernel
theorem dX8_member_375 : decode cX8_member 375 = .ok (.bastore, 1) := by decide +kernel
theorem dX8_member_376 : decode cX8_member 376 = .ok (.aload_n 0, 1) := by decide +kernel
theorem dX8_member_377 : decode cX8_member 377 = .ok (.getfield 41, 3) := by decide +kernel
theorem dX8_member_380 : decode cX8_member 380 = .ok (.iload 9, 2) := by decide +kernel
theorem dX8_member_382 : decode cX8_member 382 = .ok (.iaload, 1) := by decide +kernel
theorem dX8_member_383 : decode cX8_member 383 = .ok (.ireturn, 1) := by decide +kernel
theorem dX8_drop_0 : decode cX8_drop 0 = .ok (.aload_n 0, 1) := by decide +kernel
theorem dX8_drop_1 : decode cX8_drop 1 = .ok (.aload_n 0, 1) := by decide +kernel
theorem dX8_drop_2 : decode cX8_drop 2 = .ok (.iload_n 1, 1) := by decide +kernel
theorem dX8_drop_3 : decode cX8_drop 3 = .ok (.invokevirtual 143, 3) := by decide +kernel
theorem dX8_drop_6 : decode cX8_drop 6 = .ok (.putfield 122, 3) := by decide +kernel
theorem dX8_drop_9 : decode cX8_drop 9 = .ok (.aload_n 0, 1) := by decide +kernel
theorem dX8_drop_10 : decode cX8_drop 10 = .ok (.getfield 122, 3) := by decide +kernel
theorem dX8_drop_13 : decode cX8_drop 13 = .ok (.ifCond .le 5, 3) := by decide +kernel
theorem dX8_drop_16 : decode cX8_drop 16 = .ok (.iconst 0, 1) := by decide +kernel
theorem dX8_drop_17 : decode cX8_drop 17 = .ok (.ireturn, 1) := by decide +kernel
theorem dX8_drop_18 : decode cX8_drop 18 = .ok (.aload_n 0, 1) := by decide +kernel
theorem dX8_drop_19 : decode cX8_drop 19 = .ok (.iload_n 1, 1) := by decide +kernel
theorem dX8_drop_20 : decode cX8_drop 20 = .ok (.iload_n 2, 1) := by decide +kernel
theorem dX8_drop_21 : decode cX8_drop 21 = .ok (.invokevirtual 151, 3) := by decide +kernel
theorem dX8_drop_24 : decode cX8_drop 24 = .ok (.istore 6, 2) := by decide +kernel
theorem dX8_drop_26 : decode cX8_drop 26 = .ok (.iload 6, 2) := by decide +kernel
theorem dX8_drop_28 : decode cX8_drop 28 = .ok (.iconst (-1), 1) := by decide +kernel
theorem dX8_drop_29 : decode cX8_drop 29 = .ok (.if_icmp .eq 12, 3) := by decide +kernel
theorem dX8_drop_32 : decode cX8_drop 32 = .ok (.iload_n 3, 1) := by decide +kernel
theorem dX8_drop_33 : decode cX8_drop 33 = .ok (.ifCond .lt 8, 3) := by decide +kernel
theorem dX8_drop_36 : decode cX8_drop 36 = .ok (.iload_n 3, 1) := by decide +kernel
theorem dX8_drop_37 : decode cX8_drop 37 = .ok (.iconst 2, 1) := by decide +kernel
theorem dX8_drop_38 : decode cX8_drop 38 = .ok (.if_icmp .le 5, 3) := by decide +kernel
theorem dX8_drop_41 : decode cX8_drop 41 = .ok (.iconst 0, 1) := by decide +kernel
theorem dX8_drop_42 : decode cX8_drop 42 = .ok (.ireturn, 1) := by decide +kernel
theorem dX8_drop_43 : decode cX8_drop 43 = .ok (.iload_n 3, 1) := by decide +kernel
theorem dX8_drop_44 : decode cX8_drop 44 = .ok (.iconst 2, 1) := by decide +kernel
theorem dX8_drop_45 : decode cX8_drop 45 = .ok (.if_icmp .ne 51, 3) := by decide +kernel
theorem dX8_drop_48 : decode cX8_drop 48 = .ok (.aload_n 0, 1) := by decide +kernel
theorem dX8_drop_49 : decode cX8_drop 49 = .ok (.getfield 13, 3) := by decide +kernel
theorem dX8_drop_52 : decode cX8_drop 52 = .ok (.iload_n 1, 1) := by decide +kernel
theorem dX8_drop_53 : decode cX8_drop 53 = .ok (.dup2, 1) := by decide +kernel
theorem dX8_drop_54 : decode cX8_drop 54 = .ok (.iaload, 1) := by decide +kernel
theorem dX8_drop_55 : decode cX8_drop 55 = .ok (.iconst 1, 1) := by decide +kernel
theorem dX8_drop_56 : decode cX8_drop 56 = .ok (.isub, 1) := by decide +kernel
theorem dX8_drop_57 : decode cX8_drop 57 = .ok (.iastore, 1) := by decide +kernel
theorem dX8_drop_58 : decode cX8_drop 58 = .ok (.iload 6, 2) := by decide +kernel
theorem dX8_drop_60 : decode cX8_drop 60 = .ok (.istore 7, 2) := by decide +kernel
theorem dX8_drop_62 : decode cX8_drop 62 = .ok (.iload 7, 2) := by decide +kernel
theorem dX8_drop_64 : decode cX8_drop 64 = .ok (.bipush 10, 2) := by decide +kernel
theorem dX8_drop_66 : decode cX8_drop 66 = .ok (.iload_n 1, 1) := by decide +kernel
theorem dX8_drop_67 : decode cX8_drop 67 = .ok (.imul, 1) := by decide +kernel
theorem dX8_drop_68 : decode cX8_drop 68 = .ok (.aload_n 0, 1) := by decide +kernel
theorem dX8_drop_69 : decode cX8_drop 69 = .ok (.getfield 13, 3) := by decide +kernel
theorem dX8_drop_72 : decode cX8_drop 72 = .ok (.iload_n 1, 1) := by decide +kernel
theorem dX8_drop_73 : decode cX8_drop 73 = .ok (.iaload, 1) := by decide +kernel
theorem dX8_drop_74 : decode cX8_drop 74 = .ok (.iadd, 1) := by decide +kernel
theorem dX8_drop_75 : decode cX8_drop 75 = .ok (.if_icmp .ge 19, 3) := by decide +kernel
theorem dX8_drop_78 : decode cX8_drop 78 = .ok (.aload_n 0, 1) := by decide +kernel
theorem dX8_drop_79 : decode cX8_drop 79 = .ok (.iload 7, 2) := by decide +kernel
theorem dX8_drop_81 : decode cX8_drop 81 = .ok (.iconst 1, 1) := by decide +kernel
theorem dX8_drop_82 : decode cX8_drop 82 = .ok (.iadd, 1) := by decide +kernel
theorem dX8_drop_83 : decode cX8_drop 83 = .ok (.iload 7, 2) := by decide +kernel
theorem dX8_drop_85 : decode cX8_drop 85 = .ok (.invokevirtual 136, 3) := by decide +kernel
theorem dX8_drop_88 : decode cX8_drop 88 = .ok (.iinc 7 1, 3) := by decide +kernel
theorem dX8_drop_91 : decode cX8_drop 91 = .ok (.goto (-29), 3) := by decide +kernel
theorem dX8_drop_94 : decode cX8_drop 94 = .ok (.iconst 1, 1) := by decide +kernel
theorem dX8_drop_95 : decode cX8_drop 95 = .ok (.ireturn, 1) := by decide +kernel
theorem dX8_drop_96 : decode cX8_drop 96 = .ok (.aload_n 0, 1) := by decide +kernel
theorem dX8_drop_97 : decode cX8_drop 97 = .ok (.iload 6, 2) := by decide +kernel
theorem dX8_drop_99 : decode cX8_drop 99 = .ok (.iload_n 3, 1) := by decide +kernel
theorem dX8_drop_100 : decode cX8_drop 100 = .ok (.iload 4, 2) := by decide +kernel
theorem dX8_drop_102 : decode cX8_drop 102 = .ok (.iload 5, 2) := by decide +kernel
theorem dX8_drop_104 : decode cX8_drop 104 = .ok (.invokevirtual 155, 3) := by decide +kernel
theorem dX8_drop_107 : decode cX8_drop 107 = .ok (.istore 7, 2) := by decide +kernel
theorem dX8_drop_109 : decode cX8_drop 109 = .ok (.iload 7, 2) := by decide +kernel
theorem dX8_drop_111 : decode cX8_drop 111 = .ok (.iconst (-1), 1) := by decide +kernel
theorem dX8_drop_112 : decode cX8_drop 112 = .ok (.if_icmp .ne 5, 3) := by decide +kernel
theorem dX8_drop_115 : decode cX8_drop 115 = .ok (.iconst 0, 1) := by decide +kernel
theorem dX8_drop_116 : decode cX8_drop 116 = .ok (.ireturn, 1) := by decide +kernel
theorem dX8_drop_117 : decode cX8_drop 117 = .ok (.aload_n 0, 1) := by decide +kernel
theorem dX8_drop_118 : decode cX8_drop 118 = .ok (.getfield 41, 3) := by decide +kernel
theorem dX8_drop_121 : decode cX8_drop 121 = .ok (.iload 6, 2) := by decide +kernel
theorem dX8_drop_123 : decode cX8_drop 123 = .ok (.dup2, 1) := by decide +kernel
theorem dX8_drop_124 : decode cX8_drop 124 = .ok (.iaload, 1) := by decide +kernel
theorem dX8_drop_125 : decode cX8_drop 125 = .ok (.iconst 1, 1) := by decide +kernel
theorem dX8_drop_126 : decode cX8_drop 126 = .ok (.isub, 1) := by decide +kernel
theorem dX8_drop_127 : decode cX8_drop 127 = .ok (.iastore, 1) := by decide +kernel
theorem dX8_drop_128 : decode cX8_drop 128 = .ok (.iload 7, 2) := by decide +kernel
theorem dX8_drop_130 : decode cX8_drop 130 = .ok (.istore 8, 2) := by decide +kernel
theorem dX8_drop_132 : decode cX8_drop 132 = .ok (.iload 8, 2) := by decide +kernel
theorem dX8_drop_134 : decode cX8_drop 134 = .ok (.bipush 6, 2) := by decide +kernel
theorem dX8_drop_136 : decode cX8_drop 136 = .ok (.iload 6, 2) := by decide +kernel
theorem dX8_drop_138 : decode cX8_drop 138 = .ok (.imul, 1) := by decide +kernel
theorem dX8_drop_139 : decode cX8_drop 139 = .ok (.aload_n 0, 1) := by decide +kernel
theorem dX8_drop_140 : decode cX8_drop 140 = .ok (.getfield 41, 3) := by decide +kernel
theorem dX8_drop_143 : decode cX8_drop 143 = .ok (.iload 6, 2) := by decide +kernel
theorem dX8_drop_145 : decode cX8_drop 145 = .ok (.iaload, 1) := by decide +kernel
theorem dX8_drop_146 : decode cX8_drop 146 = .ok (.iadd, 1) := by decide +kernel
theorem dX8_drop_147 : decode cX8_drop 147 = .ok (.if_icmp .ge 19, 3) := by decide +kernel
theorem dX8_drop_150 : decode cX8_drop 150 = .ok (.aload_n 0, 1) := by decide +kernel
theorem dX8_drop_151 : decode cX8_drop 151 = .ok (.iload 8, 2) := by decide +kernel
theorem dX8_drop_153 : decode cX8_drop 153 = .ok (.iconst 1, 1) := by decide +kernel
theorem dX8_drop_154 : decode cX8_drop 154 = .ok (.iadd, 1) := by decide +kernel
theorem dX8_drop_155 : decode cX8_drop 155 = .ok (.iload 8, 2) := by decide +kernel
theorem dX8_drop_157 : decode cX8_drop 157 = .ok (.invokevirtual 140, 3) := by decide +kernel
theorem dX8_drop_160 : decode cX8_drop 160 = .ok (.iinc 8 1, 3) := by decide +kernel
theorem dX8_drop_163 : decode cX8_drop 163 = .ok (.goto (-31), 3) := by decide +kernel
theorem dX8_drop_166 : decode cX8_drop 166 = .ok (.iconst 1, 1) := by decide +kernel
theorem dX8_drop_167 : decode cX8_drop 167 = .ok (.ireturn, 1) := by decide +kernel
theorem dX8_leansRight_0 : decode cX8_leansRight 0 = .ok (.aload_n 0, 1) := by decide +kernel
theorem dX8_leansRight_1 : decode cX8_leansRight 1 = .ok (.getfield 32, 3) := by decide +kernel
theorem dX8_leansRight_4 : decode cX8_leansRight 4 = .ok (.iload_n 2, 1) := by decide +kernel
theorem dX8_leansRight_5 : decode cX8_leansRight 5 = .ok (.iaload, 1) := by decide +kernel
theorem dX8_leansRight_6 : decode cX8_leansRight 6 = .ok (.iconst (-1), 1) := by decide +kernel
theorem dX8_leansRight_7 : decode cX8_leansRight 7 = .ok (.if_icmp .eq 31, 3) := by decide +kernel
theorem dX8_leansRight_10 : decode cX8_leansRight 10 = .ok (.aload_n 0, 1) := by decide +kernel
theorem dX8_leansRight_11 : decode cX8_leansRight 11 = .ok (.iload_n 1, 1) := by decide +kernel
theorem dX8_leansRight_12 : decode cX8_leansRight 12 = .ok (.aload_n 0, 1) := by decide +kernel
theorem dX8_leansRight_13 : decode cX8_leansRight 13 = .ok (.getfield 32, 3) := by decide +kernel
theorem dX8_leansRight_16 : decode cX8_leansRight 16 = .ok (.iload_n 2, 1) := by decide +kernel
theorem dX8_leansRight_17 : decode cX8_leansRight 17 = .ok (.iaload, 1) := by decide +kernel
theorem dX8_leansRight_18 : decode cX8_leansRight 18 = .ok (.invokevirtual 151, 3) := by decide +kernel
theorem dX8_leansRight_21 : decode cX8_leansRight 21 = .ok (.istore_n 3, 1) := by decide +kernel
theorem dX8_leansRight_22 : decode cX8_leansRight 22 = .ok (.iload_n 3, 1) := by decide +kernel
theorem dX8_leansRight_23 : decode cX8_leansRight 23 = .ok (.iconst (-1), 1) := by decide +kernel
theorem dX8_leansRight_24 : decode cX8_leansRight 24 = .ok (.if_icmp .eq 12, 3) := by decide +kernel
theorem dX8_leansRight_27 : decode cX8_leansRight 27 = .ok (.aload_n 0, 1) := by decide +kernel
theorem dX8_leansRight_28 : decode cX8_leansRight 28 = .ok (.getfield 20, 3) := by decide +kernel
theorem dX8_leansRight_31 : decode cX8_leansRight 31 = .ok (.iload_n 3, 1) := by decide +kernel
theorem dX8_leansRight_32 : decode cX8_leansRight 32 = .ok (.baload, 1) := by decide +kernel
theorem dX8_leansRight_33 : decode cX8_leansRight 33 = .ok (.ifCond .eq 5, 3) := by decide +kernel
theorem dX8_leansRight_36 : decode cX8_leansRight 36 = .ok (.iconst 0, 1) := by decide +kernel
theorem dX8_leansRight_37 : decode cX8_leansRight 37 = .ok (.ireturn, 1) := by decide +kernel
theorem dX8_leansRight_38 : decode cX8_leansRight 38 = .ok (.iconst 0, 1) := by decide +kernel
theorem dX8_leansRight_39 : decode cX8_leansRight 39 = .ok (.istore_n 3, 1) := by decide +kernel
theorem dX8_leansRight_40 : decode cX8_leansRight 40 = .ok (.iload_n 3, 1) := by decide +kernel
theorem dX8_leansRight_41 : decode cX8_leansRight 41 = .ok (.aload_n 0, 1) := by decide +kernel
theorem dX8_leansRight_42 : decode cX8_leansRight 42 = .ok (.getfield 35, 3) := by decide +kernel
theorem dX8_leansRight_45 : decode cX8_leansRight 45 = .ok (.iload_n 2, 1) := by decide +kernel
theorem dX8_leansRight_46 : decode cX8_leansRight 46 = .ok (.iaload, 1) := by decide +kernel
theorem dX8_leansRight_47 : decode cX8_leansRight 47 = .ok (.if_icmp .ge 44, 3) := by decide +kernel
theorem dX8_leansRight_50 : decode cX8_leansRight 50 = .ok (.aload_n 0, 1) := by decide +kernel
theorem dX8_leansRight_51 : decode cX8_leansRight 51 = .ok (.iload_n 1, 1) := by decide +kernel
theorem dX8_leansRight_52 : decode cX8_leansRight 52 = .ok (.aload_n 0, 1) := by decide +kernel
theorem dX8_leansRight_53 : decode cX8_leansRight 53 = .ok (.getfield 38, 3) := by decide +kernel
theorem dX8_leansRight_56 : decode cX8_leansRight 56 = .ok (.iconst 3, 1) := by decide +kernel
theorem dX8_leansRight_57 : decode cX8_leansRight 57 = .ok (.iload_n 2, 1) := by decide +kernel
theorem dX8_leansRight_58 : decode cX8_leansRight 58 = .ok (.imul, 1) := by decide +kernel
theorem dX8_leansRight_59 : decode cX8_leansRight 59 = .ok (.iload_n 3, 1) := by decide +kernel
theorem dX8_leansRight_60 : decode cX8_leansRight 60 = .ok (.iadd, 1) := by decide +kernel
theorem dX8_leansRight_61 : decode cX8_leansRight 61 = .ok (.iaload, 1) := by decide +kernel
theorem dX8_leansRight_62 : decode cX8_leansRight 62 = .ok (.invokevirtual 151, 3) := by decide +kernel
theorem dX8_leansRight_65 : decode cX8_leansRight 65 = .ok (.istore 4, 2) := by decide +kernel
theorem dX8_leansRight_67 : decode cX8_leansRight 67 = .ok (.iload 4, 2) := by decide +kernel
theorem dX8_leansRight_69 : decode cX8_leansRight 69 = .ok (.iconst (-1), 1) := by decide +kernel
theorem dX8_leansRight_70 : decode cX8_leansRight 70 = .ok (.if_icmp .eq 13, 3) := by decide +kernel
theorem dX8_leansRight_73 : decode cX8_leansRight 73 = .ok (.aload_n 0, 1) := by decide +kernel
theorem dX8_leansRight_74 : decode cX8_leansRight 74 = .ok (.getfield 20, 3) := by decide +kernel
theorem dX8_leansRight_77 : decode cX8_leansRight 77 = .ok (.iload 4, 2) := by decide +kernel
theorem dX8_leansRight_79 : decode cX8_leansRight 79 = .ok (.baload, 1) := by decide +kernel
theorem dX8_leansRight_80 : decode cX8_leansRight 80 = .ok (.ifCond .ne 5, 3) := by decide +kernel
theorem dX8_leansRight_83 : decode cX8_leansRight 83 = .ok (.iconst 0, 1) := by decide +kernel
theorem dX8_leansRight_84 : decode cX8_leansRight 84 = .ok (.ireturn, 1) := by decide +kernel
theorem dX8_leansRight_85 : decode cX8_leansRight 85 = .ok (.iinc 3 1, 3) := by decide +kernel
theorem dX8_leansRight_88 : decode cX8_leansRight 88 = .ok (.goto (-48), 3) := by decide +kernel
theorem dX8_leansRight_91 : decode cX8_leansRight 91 = .ok (.iconst 1, 1) := by decide +kernel
theorem dX8_leansRight_92 : decode cX8_leansRight 92 = .ok (.ireturn, 1) := by decide +kernel
theorem dX8_reckon_0 : decode cX8_reckon 0 = .ok (.sipush 256, 3) := by decide +kernel
theorem dX8_reckon_3 : decode cX8_reckon 3 = .ok (.iload_n 1, 1) := by decide +kernel
theorem dX8_reckon_4 : decode cX8_reckon 4 = .ok (.imul, 1) := by decide +kernel
theorem dX8_reckon_5 : decode cX8_reckon 5 = .ok (.istore_n 2, 1) := by decide +kernel
theorem dX8_reckon_6 : decode cX8_reckon 6 = .ok (.iconst 0, 1) := by decide +kernel
theorem dX8_reckon_7 : decode cX8_reckon 7 = .ok (.istore_n 3, 1) := by decide +kernel
theorem dX8_reckon_8 : decode cX8_reckon 8 = .ok (.iload_n 3, 1) := by decide +kernel
theorem dX8_reckon_9 : decode cX8_reckon 9 = .ok (.sipush 256, 3) := by decide +kernel
theorem dX8_reckon_12 : decode cX8_reckon 12 = .ok (.if_icmp .ge 18, 3) := by decide +kernel
theorem dX8_reckon_15 : decode cX8_reckon 15 = .ok (.aload_n 0, 1) := by decide +kernel
theorem dX8_reckon_16 : decode cX8_reckon 16 = .ok (.getfield 65, 3) := by decide +kernel
theorem dX8_reckon_19 : decode cX8_reckon 19 = .ok (.iload_n 2, 1) := by decide +kernel
theorem dX8_reckon_20 : decode cX8_reckon 20 = .ok (.iload_n 3, 1) := by decide +kernel
theorem dX8_reckon_21 : decode cX8_reckon 21 = .ok (.iadd, 1) := by decide +kernel
theorem dX8_reckon_22 : decode cX8_reckon 22 = .ok (.iconst 0, 1) := by decide +kernel
theorem dX8_reckon_23 : decode cX8_reckon 23 = .ok (.bastore, 1) := by decide +kernel
theorem dX8_reckon_24 : decode cX8_reckon 24 = .ok (.iinc 3 1, 3) := by decide +kernel
theorem dX8_reckon_27 : decode cX8_reckon 27 = .ok (.goto (-19), 3) := by decide +kernel
theorem dX8_reckon_30 : decode cX8_reckon 30 = .ok (.bipush 10, 2) := by decide +kernel
theorem dX8_reckon_32 : decode cX8_reckon 32 = .ok (.iload_n 1, 1) := by decide +kernel
theorem dX8_reckon_33 : decode cX8_reckon 33 = .ok (.imul, 1) := by decide +kernel
theorem dX8_reckon_34 : decode cX8_reckon 34 = .ok (.istore_n 3, 1) := by decide +kernel
theorem dX8_reckon_35 : decode cX8_reckon 35 = .ok (.iload_n 3, 1) := by decide +kernel
theorem dX8_reckon_36 : decode cX8_reckon 36 = .ok (.bipush 10, 2) := by decide +kernel
theorem dX8_reckon_38 : decode cX8_reckon 38 = .ok (.iload_n 1, 1) := by decide +kernel
theorem dX8_reckon_39 : decode cX8_reckon 39 = .ok (.imul, 1) := by decide +kernel
theorem dX8_reckon_40 : decode cX8_reckon 40 = .ok (.aload_n 0, 1) := by decide +kernel
theorem dX8_reckon_41 : decode cX8_reckon 41 = .ok (.getfield 13, 3) := by decide +kernel
theorem dX8_reckon_44 : decode cX8_reckon 44 = .ok (.iload_n 1, 1) := by decide +kernel
theorem dX8_reckon_45 : decode cX8_reckon 45 = .ok (.iaload, 1) := by decide +kernel
theorem dX8_reckon_46 : decode cX8_reckon 46 = .ok (.iadd, 1) := by decide +kernel
theorem dX8_reckon_47 : decode cX8_reckon 47 = .ok (.if_icmp .ge 92, 3) := by decide +kernel
theorem dX8_reckon_50 : decode cX8_reckon 50 = .ok (.aload_n 0, 1) := by decide +kernel
theorem dX8_reckon_51 : decode cX8_reckon 51 = .ok (.getfield 32, 3) := by decide +kernel
theorem dX8_reckon_54 : decode cX8_reckon 54 = .ok (.iload_n 3, 1) := by decide +kernel
theorem dX8_reckon_55 : decode cX8_reckon 55 = .ok (.iaload, 1) := by decide +kernel
theorem dX8_reckon_56 : decode cX8_reckon 56 = .ok (.iconst (-1), 1) := by decide +kernel
theorem dX8_reckon_57 : decode cX8_reckon 57 = .ok (.if_icmp .eq 27, 3) := by decide +kernel
theorem dX8_reckon_60 : decode cX8_reckon 60 = .ok (.aload_n 0, 1) := by decide +kernel
theorem dX8_reckon_61 : decode cX8_reckon 61 = .ok (.getfield 65, 3) := by decide +kernel
theorem dX8_reckon_64 : decode cX8_reckon 64 = .ok (.iload_n 2, 1) := by decide +kernel
theorem dX8_reckon_65 : decode cX8_reckon 65 = .ok (.bipush 16, 2) := by decide +kernel
theorem dX8_reckon_67 : decode cX8_reckon 67 = .ok (.aload_n 0, 1) := by decide +kernel
theorem dX8_reckon_68 : decode cX8_reckon 68 = .ok (.getfield 32, 3) := by decide +kernel
theorem dX8_reckon_71 : decode cX8_reckon 71 = .ok (.iload_n 3, 1) := by decide +kernel
theorem dX8_reckon_72 : decode cX8_reckon 72 = .ok (.iaload, 1) := by decide +kernel
theorem dX8_reckon_73 : decode cX8_reckon 73 = .ok (.imul, 1) := by decide +kernel
theorem dX8_reckon_74 : decode cX8_reckon 74 = .ok (.iadd, 1) := by decide +kernel
theorem dX8_reckon_75 : decode cX8_reckon 75 = .ok (.aload_n 0, 1) := by decide +kernel
theorem dX8_reckon_76 : decode cX8_reckon 76 = .ok (.getfield 17, 3) := by decide +kernel
theorem dX8_reckon_79 : decode cX8_reckon 79 = .ok (.iload_n 3, 1) := by decide +kernel
theorem dX8_reckon_80 : decode cX8_reckon 80 = .ok (.iaload, 1) := by decide +kernel
theorem dX8_reckon_81 : decode cX8_reckon 81 = .ok (.iadd, 1) := by decide +kernel
theorem dX8_reckon_82 : decode cX8_reckon 82 = .ok (.iconst 1, 1) := by decide +kernel
theorem dX8_reckon_83 : decode cX8_reckon 83 = .ok (.bastore, 1) := by decide +kernel
theorem dX8_reckon_84 : decode cX8_reckon 84 = .ok (.iconst 0, 1) := by decide +kernel
theorem dX8_reckon_85 : decode cX8_reckon 85 = .ok (.istore 4, 2) := by decide +kernel
theorem dX8_reckon_87 : decode cX8_reckon 87 = .ok (.iload 4, 2) := by decide +kernel
theorem dX8_reckon_89 : decode cX8_reckon 89 = .ok (.aload_n 0, 1) := by decide +kernel
theorem dX8_reckon_90 : decode cX8_reckon 90 = .ok (.getfield 35, 3) := by decide +kernel
theorem dX8_reckon_93 : decode cX8_reckon 93 = .ok (.iload_n 3, 1) := by decide +kernel
theorem dX8_reckon_94 : decode cX8_reckon 94 = .ok (.iaload, 1) := by decide +kernel
theorem dX8_reckon_95 : decode cX8_reckon 95 = .ok (.if_icmp .ge 38, 3) := by decide +kernel
theorem dX8_reckon_98 : decode cX8_reckon 98 = .ok (.aload_n 0, 1) := by decide +kernel
theorem dX8_reckon_99 : decode cX8_reckon 99 = .ok (.getfield 65, 3) := by decide +kernel
theorem dX8_reckon_102 : decode cX8_reckon 102 = .ok (.iload_n 2, 1) := by decide +kernel
theorem dX8_reckon_103 : decode cX8_reckon 103 = .ok (.bipush 16, 2) := by decide +kernel
theorem dX8_reckon_105 : decode cX8_reckon 105 = .ok (.aload_n 0, 1) := by decide +kernel
theorem dX8_reckon_106 : decode cX8_reckon 106 = .ok (.getfield 38, 3) := by decide +kernel
theorem dX8_reckon_109 : decode cX8_reckon 109 = .ok (.iconst 3, 1) := by decide +kernel
theorem dX8_reckon_110 : decode cX8_reckon 110 = .ok (.iload_n 3, 1) := by decide +kernel
theorem dX8_reckon_111 : decode cX8_reckon 111 = .ok (.imul, 1) := by decide +kernel
theorem dX8_reckon_112 : decode cX8_reckon 112 = .ok (.iload 4, 2) := by decide +kernel
theorem dX8_reckon_114 : decode cX8_reckon 114 = .ok (.iadd, 1) := by decide +kernel
theorem dX8_reckon_115 : decode cX8_reckon 115 = .ok (.iaload, 1) := by decide +kernel
theorem dX8_reckon_116 : decode cX8_reckon 116 = .ok (.imul, 1) := by decide +kernel
theorem dX8_reckon_117 : decode cX8_reckon 117 = .ok (.iadd, 1) := by decide +kernel
theorem dX8_reckon_118 : decode cX8_reckon 118 = .ok (.aload_n 0, 1) := by decide +kernel
theorem dX8_reckon_119 : decode cX8_reckon 119 = .ok (.getfield 17, 3) := by decide +kernel
theorem dX8_reckon_122 : decode cX8_reckon 122 = .ok (.iload_n 3, 1) := by decide +kernel
theorem dX8_reckon_123 : decode cX8_reckon 123 = .ok (.iaload, 1) := by decide +kernel
theorem dX8_reckon_124 : decode cX8_reckon 124 = .ok (.iadd, 1) := by decide +kernel
theorem dX8_reckon_125 : decode cX8_reckon 125 = .ok (.iconst 1, 1) := by decide +kernel
theorem dX8_reckon_126 : decode cX8_reckon 126 = .ok (.bastore, 1) := by decide +kernel
theorem dX8_reckon_127 : decode cX8_reckon 127 = .ok (.iinc 4 1, 3) := by decide +kernel
theorem dX8_reckon_130 : decode cX8_reckon 130 = .ok (.goto (-43), 3) := by decide +kernel
theorem dX8_reckon_133 : decode cX8_reckon 133 = .ok (.iinc 3 1, 3) := by decide +kernel
theorem dX8_reckon_136 : decode cX8_reckon 136 = .ok (.goto (-101), 3) := by decide +kernel
theorem dX8_reckon_139 : decode cX8_reckon 139 = .ok (.iconst 0, 1) := by decide +kernel
theorem dX8_reckon_140 : decode cX8_reckon 140 = .ok (.istore_n 3, 1) := by decide +kernel
theorem dX8_reckon_141 : decode cX8_reckon 141 = .ok (.iload_n 3, 1) := by decide +kernel
theorem dX8_reckon_142 : decode cX8_reckon 142 = .ok (.bipush 16, 2) := by decide +kernel
theorem dX8_reckon_144 : decode cX8_reckon 144 = .ok (.if_icmp .ge 91, 3) := by decide +kernel
theorem dX8_reckon_147 : decode cX8_reckon 147 = .ok (.iconst 0, 1) := by decide +kernel
theorem dX8_reckon_148 : decode cX8_reckon 148 = .ok (.istore 4, 2) := by decide +kernel
theorem dX8_reckon_150 : decode cX8_reckon 150 = .ok (.iload 4, 2) := by decide +kernel
theorem dX8_reckon_152 : decode cX8_reckon 152 = .ok (.bipush 16, 2) := by decide +kernel
theorem dX8_reckon_154 : decode cX8_reckon 154 = .ok (.if_icmp .ge 75, 3) := by decide +kernel
theorem dX8_reckon_157 : decode cX8_reckon 157 = .ok (.iconst 0, 1) := by decide +kernel
theorem dX8_reckon_158 : decode cX8_reckon 158 = .ok (.istore 5, 2) := by decide +kernel
theorem dX8_reckon_160 : decode cX8_reckon 160 = .ok (.iload 5, 2) := by decide +kernel
theorem dX8_reckon_162 : decode cX8_reckon 162 = .ok (.bipush 16, 2) := by decide +kernel
theorem dX8_reckon_164 : decode cX8_reckon 164 = .ok (.if_icmp .ge 59, 3) := by decide +kernel
theorem dX8_reckon_167 : decode cX8_reckon 167 = .ok (.aload_n 0, 1) := by decide +kernel
theorem dX8_reckon_168 : decode cX8_reckon 168 = .ok (.getfield 65, 3) := by decide +kernel
theorem dX8_reckon_171 : decode cX8_reckon 171 = .ok (.iload_n 2, 1) := by decide +kernel
theorem dX8_reckon_172 : decode cX8_reckon 172 = .ok (.bipush 16, 2) := by decide +kernel
theorem dX8_reckon_174 : decode cX8_reckon 174 = .ok (.iload 4, 2) := by decide +kernel
theorem dX8_reckon_176 : decode cX8_reckon 176 = .ok (.imul, 1) := by decide +kernel
theorem dX8_reckon_177 : decode cX8_reckon 177 = .ok (.iadd, 1) := by decide +kernel
theorem dX8_reckon_178 : decode cX8_reckon 178 = .ok (.iload_n 3, 1) := by decide +kernel
theorem dX8_reckon_179 : decode cX8_reckon 179 = .ok (.iadd, 1) := by decide +kernel
theorem dX8_reckon_180 : decode cX8_reckon 180 = .ok (.baload, 1) := by decide +kernel
theorem dX8_reckon_181 : decode cX8_reckon 181 = .ok (.ifCond .eq 36, 3) := by decide +kernel
theorem dX8_reckon_184 : decode cX8_reckon 184 = .ok (.aload_n 0, 1) := by decide +kernel
theorem dX8_reckon_185 : decode cX8_reckon 185 = .ok (.getfield 65, 3) := by decide +kernel
theorem dX8_reckon_188 : decode cX8_reckon 188 = .ok (.iload_n 2, 1) := by decide +kernel
theorem dX8_reckon_189 : decode cX8_reckon 189 = .ok (.bipush 16, 2) := by decide +kernel
theorem dX8_reckon_191 : decode cX8_reckon 191 = .ok (.iload_n 3, 1) := by decide +kernel
theorem dX8_reckon_192 : decode cX8_reckon 192 = .ok (.imul, 1) := by decide +kernel
theorem dX8_reckon_193 : decode cX8_reckon 193 = .ok (.iadd, 1) := by decide +kernel
theorem dX8_reckon_194 : decode cX8_reckon 194 = .ok (.iload 5, 2) := by decide +kernel
theorem dX8_reckon_196 : decode cX8_reckon 196 = .ok (.iadd, 1) := by decide +kernel
theorem dX8_reckon_197 : decode cX8_reckon 197 = .ok (.baload, 1) := by decide +kernel
theorem dX8_reckon_198 : decode cX8_reckon 198 = .ok (.ifCond .eq 19, 3) := by decide +kernel
theorem dX8_reckon_201 : decode cX8_reckon 201 = .ok (.aload_n 0, 1) := by decide +kernel
theorem dX8_reckon_202 : decode cX8_reckon 202 = .ok (.getfield 65, 3) := by decide +kernel
theorem dX8_reckon_205 : decode cX8_reckon 205 = .ok (.iload_n 2, 1) := by decide +kernel
theorem dX8_reckon_206 : decode cX8_reckon 206 = .ok (.bipush 16, 2) := by decide +kernel
theorem dX8_reckon_208 : decode cX8_reckon 208 = .ok (.iload 4, 2) := by decide +kernel
theorem dX8_reckon_210 : decode cX8_reckon 210 = .ok (.imul, 1) := by decide +kernel
theorem dX8_reckon_211 : decode cX8_reckon 211 = .ok (.iadd, 1) := by decide +kernel
theorem dX8_reckon_212 : decode cX8_reckon 212 = .ok (.iload 5, 2) := by decide +kernel
theorem dX8_reckon_214 : decode cX8_reckon 214 = .ok (.iadd, 1) := by decide +kernel
theorem dX8_reckon_215 : decode cX8_reckon 215 = .ok (.iconst 1, 1) := by decide +kernel
theorem dX8_reckon_216 : decode cX8_reckon 216 = .ok (.bastore, 1) := by decide +kernel
theorem dX8_reckon_217 : decode cX8_reckon 217 = .ok (.iinc 5 1, 3) := by decide +kernel
theorem dX8_reckon_220 : decode cX8_reckon 220 = .ok (.goto (-60), 3) := by decide +kernel
theorem dX8_reckon_223 : decode cX8_reckon 223 = .ok (.iinc 4 1, 3) := by decide +kernel
theorem dX8_reckon_226 : decode cX8_reckon 226 = .ok (.goto (-76), 3) := by decide +kernel
theorem dX8_reckon_229 : decode cX8_reckon 229 = .ok (.iinc 3 1, 3) := by decide +kernel
theorem dX8_reckon_232 : decode cX8_reckon 232 = .ok (.goto (-91), 3) := by decide +kernel
theorem dX8_reckon_235 : decode cX8_reckon 235 = .ok (.return_, 1) := by decide +kernel
theorem dX8_isAbove_0 : decode cX8_isAbove 0 = .ok (.iload_n 2, 1) := by decide +kernel
theorem dX8_isAbove_1 : decode cX8_isAbove 1 = .ok (.iconst 0, 1) := by decide +kernel
theorem dX8_isAbove_2 : decode cX8_isAbove 2 = .ok (.bipush 15, 2) := by decide +kernel
theorem dX8_isAbove_4 : decode cX8_isAbove 4 = .ok (.invokestatic 147, 3) := by decide +kernel
theorem dX8_isAbove_7 : decode cX8_isAbove 7 = .ok (.ifCond .eq 37, 3) := by decide +kernel
theorem dX8_isAbove_10 : decode cX8_isAbove 10 = .ok (.iload_n 3, 1) := by decide +kernel
theorem dX8_isAbove_11 : decode cX8_isAbove 11 = .ok (.iconst 0, 1) := by decide +kernel
theorem dX8_isAbove_12 : decode cX8_isAbove 12 = .ok (.bipush 15, 2) := by decide +kernel
theorem dX8_isAbove_14 : decode cX8_isAbove 14 = .ok (.invokestatic 147, 3) := by decide +kernel
theorem dX8_isAbove_17 : decode cX8_isAbove 17 = .ok (.ifCond .eq 27, 3) := by decide +kernel
theorem dX8_isAbove_20 : decode cX8_isAbove 20 = .ok (.aload_n 0, 1) := by decide +kernel
theorem dX8_isAbove_21 : decode cX8_isAbove 21 = .ok (.getfield 65, 3) := by decide +kernel
theorem dX8_isAbove_24 : decode cX8_isAbove 24 = .ok (.sipush 256, 3) := by decide +kernel
theorem dX8_isAbove_27 : decode cX8_isAbove 27 = .ok (.iload_n 1, 1) := by decide +kernel
theorem dX8_isAbove_28 : decode cX8_isAbove 28 = .ok (.imul, 1) := by decide +kernel
theorem dX8_isAbove_29 : decode cX8_isAbove 29 = .ok (.bipush 16, 2) := by decide +kernel
theorem dX8_isAbove_31 : decode cX8_isAbove 31 = .ok (.iload_n 2, 1) := by decide +kernel
theorem dX8_isAbove_32 : decode cX8_isAbove 32 = .ok (.imul, 1) := by decide +kernel
theorem dX8_isAbove_33 : decode cX8_isAbove 33 = .ok (.iadd, 1) := by decide +kernel
theorem dX8_isAbove_34 : decode cX8_isAbove 34 = .ok (.iload_n 3, 1) := by decide +kernel
theorem dX8_isAbove_35 : decode cX8_isAbove 35 = .ok (.iadd, 1) := by decide +kernel
theorem dX8_isAbove_36 : decode cX8_isAbove 36 = .ok (.baload, 1) := by decide +kernel
theorem dX8_isAbove_37 : decode cX8_isAbove 37 = .ok (.ifCond .eq 7, 3) := by decide +kernel
theorem dX8_isAbove_40 : decode cX8_isAbove 40 = .ok (.iconst 1, 1) := by decide +kernel
theorem dX8_isAbove_41 : decode cX8_isAbove 41 = .ok (.goto 4, 3) := by decide +kernel
theorem dX8_isAbove_44 : decode cX8_isAbove 44 = .ok (.iconst 0, 1) := by decide +kernel
theorem dX8_isAbove_45 : decode cX8_isAbove 45 = .ok (.ireturn, 1) := by decide +kernel
theorem dX8_seal_0 : decode cX8_seal 0 = .ok (.aload_n 0, 1) := by decide +kernel
theorem dX8_seal_1 : decode cX8_seal 1 = .ok (.aload_n 0, 1) := by decide +kernel
theorem dX8_seal_2 : decode cX8_seal 2 = .ok (.iload_n 1, 1) := by decide +kernel
theorem dX8_seal_3 : decode cX8_seal 3 = .ok (.invokevirtual 143, 3) := by decide +kernel
theorem dX8_seal_6 : decode cX8_seal 6 = .ok (.putfield 122, 3) := by decide +kernel
theorem dX8_seal_9 : decode cX8_seal 9 = .ok (.aload_n 0, 1) := by decide +kernel
theorem dX8_seal_10 : decode cX8_seal 10 = .ok (.getfield 122, 3) := by decide +kernel
theorem dX8_seal_13 : decode cX8_seal 13 = .ok (.ifCond .le 5, 3) := by decide +kernel
theorem dX8_seal_16 : decode cX8_seal 16 = .ok (.iconst 0, 1) := by decide +kernel
theorem dX8_seal_17 : decode cX8_seal 17 = .ok (.ireturn, 1) := by decide +kernel
theorem dX8_seal_18 : decode cX8_seal 18 = .ok (.bipush 10, 2) := by decide +kernel
theorem dX8_seal_20 : decode cX8_seal 20 = .ok (.iload_n 1, 1) := by decide +kernel
theorem dX8_seal_21 : decode cX8_seal 21 = .ok (.imul, 1) := by decide +kernel
theorem dX8_seal_22 : decode cX8_seal 22 = .ok (.istore_n 2, 1) := by decide +kernel
theorem dX8_seal_23 : decode cX8_seal 23 = .ok (.iload_n 2, 1) := by decide +kernel
theorem dX8_seal_24 : decode cX8_seal 24 = .ok (.bipush 10, 2) := by decide +kernel
theorem dX8_seal_26 : decode cX8_seal 26 = .ok (.iload_n 1, 1) := by decide +kernel
theorem dX8_seal_27 : decode cX8_seal 27 = .ok (.imul, 1) := by decide +kernel
theorem dX8_seal_28 : decode cX8_seal 28 = .ok (.aload_n 0, 1) := by decide +kernel
theorem dX8_seal_29 : decode cX8_seal 29 = .ok (.getfield 13, 3) := by decide +kernel
theorem dX8_seal_32 : decode cX8_seal 32 = .ok (.iload_n 1, 1) := by decide +kernel
theorem dX8_seal_33 : decode cX8_seal 33 = .ok (.iaload, 1) := by decide +kernel
theorem dX8_seal_34 : decode cX8_seal 34 = .ok (.iadd, 1) := by decide +kernel
theorem dX8_seal_35 : decode cX8_seal 35 = .ok (.if_icmp .ge 25, 3) := by decide +kernel
theorem dX8_seal_38 : decode cX8_seal 38 = .ok (.aload_n 0, 1) := by decide +kernel
theorem dX8_seal_39 : decode cX8_seal 39 = .ok (.iload_n 1, 1) := by decide +kernel
theorem dX8_seal_40 : decode cX8_seal 40 = .ok (.iload_n 2, 1) := by decide +kernel
theorem dX8_seal_41 : decode cX8_seal 41 = .ok (.invokevirtual 159, 3) := by decide +kernel
theorem dX8_seal_44 : decode cX8_seal 44 = .ok (.ifCond .ne 10, 3) := by decide +kernel
theorem dX8_seal_47 : decode cX8_seal 47 = .ok (.aload_n 0, 1) := by decide +kernel
theorem dX8_seal_48 : decode cX8_seal 48 = .ok (.getfield 17, 3) := by decide +kernel
theorem dX8_seal_51 : decode cX8_seal 51 = .ok (.iload_n 2, 1) := by decide +kernel
theorem dX8_seal_52 : decode cX8_seal 52 = .ok (.iaload, 1) := by decide +kernel
theorem dX8_seal_53 : decode cX8_seal 53 = .ok (.ireturn, 1) := by decide +kernel
theorem dX8_seal_54 : decode cX8_seal 54 = .ok (.iinc 2 1, 3) := by decide +kernel
theorem dX8_seal_57 : decode cX8_seal 57 = .ok (.goto (-34), 3) := by decide +kernel
theorem dX8_seal_60 : decode cX8_seal 60 = .ok (.aload_n 0, 1) := by decide +kernel
theorem dX8_seal_61 : decode cX8_seal 61 = .ok (.iload_n 1, 1) := by decide +kernel
theorem dX8_seal_62 : decode cX8_seal 62 = .ok (.invokevirtual 163, 3) := by decide +kernel
theorem dX8_seal_65 : decode cX8_seal 65 = .ok (.bipush 10, 2) := by decide +kernel
theorem dX8_seal_67 : decode cX8_seal 67 = .ok (.iload_n 1, 1) := by decide +kernel
theorem dX8_seal_68 : decode cX8_seal 68 = .ok (.imul, 1) := by decide +kernel
theorem dX8_seal_69 : decode cX8_seal 69 = .ok (.istore_n 2, 1) := by decide +kernel
theorem dX8_seal_70 : decode cX8_seal 70 = .ok (.iload_n 2, 1) := by decide +kernel
theorem dX8_seal_71 : decode cX8_seal 71 = .ok (.bipush 10, 2) := by decide +kernel
theorem dX8_seal_73 : decode cX8_seal 73 = .ok (.iload_n 1, 1) := by decide +kernel
theorem dX8_seal_74 : decode cX8_seal 74 = .ok (.imul, 1) := by decide +kernel
theorem dX8_seal_75 : decode cX8_seal 75 = .ok (.aload_n 0, 1) := by decide +kernel
theorem dX8_seal_76 : decode cX8_seal 76 = .ok (.getfield 13, 3) := by decide +kernel
theorem dX8_seal_79 : decode cX8_seal 79 = .ok (.iload_n 1, 1) := by decide +kernel
theorem dX8_seal_80 : decode cX8_seal 80 = .ok (.iaload, 1) := by decide +kernel
theorem dX8_seal_81 : decode cX8_seal 81 = .ok (.iadd, 1) := by decide +kernel
theorem dX8_seal_82 : decode cX8_seal 82 = .ok (.if_icmp .ge 36, 3) := by decide +kernel
theorem dX8_seal_85 : decode cX8_seal 85 = .ok (.aload_n 0, 1) := by decide +kernel
theorem dX8_seal_86 : decode cX8_seal 86 = .ok (.iload_n 1, 1) := by decide +kernel
theorem dX8_seal_87 : decode cX8_seal 87 = .ok (.aload_n 0, 1) := by decide +kernel
theorem dX8_seal_88 : decode cX8_seal 88 = .ok (.getfield 17, 3) := by decide +kernel
theorem dX8_seal_91 : decode cX8_seal 91 = .ok (.iload_n 2, 1) := by decide +kernel
theorem dX8_seal_92 : decode cX8_seal 92 = .ok (.iaload, 1) := by decide +kernel
theorem dX8_seal_93 : decode cX8_seal 93 = .ok (.aload_n 0, 1) := by decide +kernel
theorem dX8_seal_94 : decode cX8_seal 94 = .ok (.getfield 17, 3) := by decide +kernel
theorem dX8_seal_97 : decode cX8_seal 97 = .ok (.iload_n 2, 1) := by decide +kernel
theorem dX8_seal_98 : decode cX8_seal 98 = .ok (.iaload, 1) := by decide +kernel
theorem dX8_seal_99 : decode cX8_seal 99 = .ok (.invokevirtual 167, 3) := by decide +kernel
theorem dX8_seal_102 : decode cX8_seal 102 = .ok (.ifCond .eq 10, 3) := by decide +kernel
theorem dX8_seal_105 : decode cX8_seal 105 = .ok (.aload_n 0, 1) := by decide +kernel
theorem dX8_seal_106 : decode cX8_seal 106 = .ok (.getfield 17, 3) := by decide +kernel
theorem dX8_seal_109 : decode cX8_seal 109 = .ok (.iload_n 2, 1) := by decide +kernel
theorem dX8_seal_110 : decode cX8_seal 110 = .ok (.iaload, 1) := by decide +kernel
theorem dX8_seal_111 : decode cX8_seal 111 = .ok (.ireturn, 1) := by decide +kernel
theorem dX8_seal_112 : decode cX8_seal 112 = .ok (.iinc 2 1, 3) := by decide +kernel
theorem dX8_seal_115 : decode cX8_seal 115 = .ok (.goto (-45), 3) := by decide +kernel
theorem dX8_seal_118 : decode cX8_seal 118 = .ok (.aload_n 0, 1) := by decide +kernel
theorem dX8_seal_119 : decode cX8_seal 119 = .ok (.getfield 7, 3) := by decide +kernel
theorem dX8_seal_122 : decode cX8_seal 122 = .ok (.iload_n 1, 1) := by decide +kernel
theorem dX8_seal_123 : decode cX8_seal 123 = .ok (.iconst 1, 1) := by decide +kernel
theorem dX8_seal_124 : decode cX8_seal 124 = .ok (.bastore, 1) := by decide +kernel
theorem dX8_seal_125 : decode cX8_seal 125 = .ok (.iconst (-1), 1) := by decide +kernel
theorem dX8_seal_126 : decode cX8_seal 126 = .ok (.ireturn, 1) := by decide +kernel
theorem dX8_above_0 : decode cX8_above 0 = .ok (.aload_n 0, 1) := by decide +kernel
theorem dX8_above_1 : decode cX8_above 1 = .ok (.aload_n 0, 1) := by decide +kernel
theorem dX8_above_2 : decode cX8_above 2 = .ok (.iload_n 1, 1) := by decide +kernel
theorem dX8_above_3 : decode cX8_above 3 = .ok (.invokevirtual 170, 3) := by decide +kernel
theorem dX8_above_6 : decode cX8_above 6 = .ok (.putfield 122, 3) := by decide +kernel
theorem dX8_above_9 : decode cX8_above 9 = .ok (.aload_n 0, 1) := by decide +kernel
theorem dX8_above_10 : decode cX8_above 10 = .ok (.getfield 122, 3) := by decide +kernel
theorem dX8_above_13 : decode cX8_above 13 = .ok (.ifCond .ne 17, 3) := by decide +kernel
theorem dX8_above_16 : decode cX8_above 16 = .ok (.aload_n 0, 1) := by decide +kernel
theorem dX8_above_17 : decode cX8_above 17 = .ok (.iload_n 1, 1) := by decide +kernel
theorem dX8_above_18 : decode cX8_above 18 = .ok (.iload_n 2, 1) := by decide +kernel
theorem dX8_above_19 : decode cX8_above 19 = .ok (.iload_n 3, 1) := by decide +kernel
theorem dX8_above_20 : decode cX8_above 20 = .ok (.invokevirtual 167, 3) := by decide +kernel
theorem dX8_above_23 : decode cX8_above 23 = .ok (.ifCond .eq 7, 3) := by decide +kernel
theorem dX8_above_26 : decode cX8_above 26 = .ok (.iconst 1, 1) := by decide +kernel
theorem dX8_above_27 : decode cX8_above 27 = .ok (.goto 4, 3) := by decide +kernel
theorem dX8_above_30 : decode cX8_above 30 = .ok (.iconst 0, 1) := by decide +kernel
theorem dX8_above_31 : decode cX8_above 31 = .ok (.ireturn, 1) := by decide +kernel
theorem dX8_findField_0 : decode cX8_findField 0 = .ok (.aload_n 0, 1) := by decide +kernel
theorem dX8_findField_1 : decode cX8_findField 1 = .ok (.iload_n 2, 1) := by decide +kernel
theorem dX8_findField_2 : decode cX8_findField 2 = .ok (.iconst 0, 1) := by decide +kernel
theorem dX8_findField_3 : decode cX8_findField 3 = .ok (.iload_n 3, 1) := by decide +kernel
theorem dX8_findField_4 : decode cX8_findField 4 = .ok (.iload 4, 2) := by decide +kernel
theorem dX8_findField_6 : decode cX8_findField 6 = .ok (.invokevirtual 155, 3) := by decide +kernel
theorem dX8_findField_9 : decode cX8_findField 9 = .ok (.istore 5, 2) := by decide +kernel
theorem dX8_findField_11 : decode cX8_findField 11 = .ok (.iconst 0, 1) := by decide +kernel
theorem dX8_findField_12 : decode cX8_findField 12 = .ok (.istore 6, 2) := by decide +kernel
theorem dX8_findField_14 : decode cX8_findField 14 = .ok (.iload 5, 2) := by decide +kernel
