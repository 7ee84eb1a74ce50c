theorem dX8_findField_16 : decode cX8_findField 16 = .ok (.iconst (-1), 1) := by decide +kernel
theorem dX8_findField_17 : decode cX8_findField 17 = .ok (.if_icmp .ne 46, 3) := by decide +kernel
theorem dX8_findField_20 : decode cX8_findField 20 = .ok (.iload 6, 2) := by decide +kernel
theorem dX8_findField_22 : decode cX8_findField 22 = .ok (.aload_n 0, 1) := by decide +kernel
theorem dX8_findField_23 : decode cX8_findField 23 = .ok (.getfield 35, 3) := by decide +kernel
theorem dX8_findField_26 : decode cX8_findField 26 = .ok (.iload_n 2, 1) := by decide +kernel
theorem dX8_findField_27 : decode cX8_findField 27 = .ok (.iaload, 1) := by decide +kernel
theorem dX8_findField_28 : decode cX8_findField 28 = .ok (.if_icmp .ge 35, 3) := by decide +kernel
theorem dX8_findField_31 : decode cX8_findField 31 = .ok (.aload_n 0, 1) := by decide +kernel
theorem dX8_findField_32 : decode cX8_findField 32 = .ok (.iload_n 1, 1) := by decide +kernel
theorem dX8_findField_33 : decode cX8_findField 33 = .ok (.aload_n 0, 1) := by decide +kernel
theorem dX8_findField_34 : decode cX8_findField 34 = .ok (.iload_n 1, 1) := by decide +kernel
theorem dX8_findField_35 : decode cX8_findField 35 = .ok (.aload_n 0, 1) := by decide +kernel
theorem dX8_findField_36 : decode cX8_findField 36 = .ok (.getfield 38, 3) := by decide +kernel
theorem dX8_findField_39 : decode cX8_findField 39 = .ok (.iconst 3, 1) := by decide +kernel
theorem dX8_findField_40 : decode cX8_findField 40 = .ok (.iload_n 2, 1) := by decide +kernel
theorem dX8_findField_41 : decode cX8_findField 41 = .ok (.imul, 1) := by decide +kernel
theorem dX8_findField_42 : decode cX8_findField 42 = .ok (.iload 6, 2) := by decide +kernel
theorem dX8_findField_44 : decode cX8_findField 44 = .ok (.iadd, 1) := by decide +kernel
theorem dX8_findField_45 : decode cX8_findField 45 = .ok (.iaload, 1) := by decide +kernel
theorem dX8_findField_46 : decode cX8_findField 46 = .ok (.invokevirtual 151, 3) := by decide +kernel
theorem dX8_findField_49 : decode cX8_findField 49 = .ok (.iload_n 3, 1) := by decide +kernel
theorem dX8_findField_50 : decode cX8_findField 50 = .ok (.iload 4, 2) := by decide +kernel
theorem dX8_findField_52 : decode cX8_findField 52 = .ok (.invokevirtual 173, 3) := by decide +kernel
theorem dX8_findField_55 : decode cX8_findField 55 = .ok (.istore 5, 2) := by decide +kernel
theorem dX8_findField_57 : decode cX8_findField 57 = .ok (.iinc 6 1, 3) := by decide +kernel
theorem dX8_findField_60 : decode cX8_findField 60 = .ok (.goto (-46), 3) := by decide +kernel
theorem dX8_findField_63 : decode cX8_findField 63 = .ok (.iload 5, 2) := by decide +kernel
theorem dX8_findField_65 : decode cX8_findField 65 = .ok (.iconst (-1), 1) := by decide +kernel
theorem dX8_findField_66 : decode cX8_findField 66 = .ok (.if_icmp .ne 34, 3) := by decide +kernel
theorem dX8_findField_69 : decode cX8_findField 69 = .ok (.aload_n 0, 1) := by decide +kernel
theorem dX8_findField_70 : decode cX8_findField 70 = .ok (.getfield 32, 3) := by decide +kernel
theorem dX8_findField_73 : decode cX8_findField 73 = .ok (.iload_n 2, 1) := by decide +kernel
theorem dX8_findField_74 : decode cX8_findField 74 = .ok (.iaload, 1) := by decide +kernel
theorem dX8_findField_75 : decode cX8_findField 75 = .ok (.iconst (-1), 1) := by decide +kernel
theorem dX8_findField_76 : decode cX8_findField 76 = .ok (.if_icmp .eq 24, 3) := by decide +kernel
theorem dX8_findField_79 : decode cX8_findField 79 = .ok (.aload_n 0, 1) := by decide +kernel
theorem dX8_findField_80 : decode cX8_findField 80 = .ok (.iload_n 1, 1) := by decide +kernel
theorem dX8_findField_81 : decode cX8_findField 81 = .ok (.aload_n 0, 1) := by decide +kernel
theorem dX8_findField_82 : decode cX8_findField 82 = .ok (.iload_n 1, 1) := by decide +kernel
theorem dX8_findField_83 : decode cX8_findField 83 = .ok (.aload_n 0, 1) := by decide +kernel
theorem dX8_findField_84 : decode cX8_findField 84 = .ok (.getfield 32, 3) := by decide +kernel
theorem dX8_findField_87 : decode cX8_findField 87 = .ok (.iload_n 2, 1) := by decide +kernel
theorem dX8_findField_88 : decode cX8_findField 88 = .ok (.iaload, 1) := by decide +kernel
theorem dX8_findField_89 : decode cX8_findField 89 = .ok (.invokevirtual 151, 3) := by decide +kernel
theorem dX8_findField_92 : decode cX8_findField 92 = .ok (.iload_n 3, 1) := by decide +kernel
theorem dX8_findField_93 : decode cX8_findField 93 = .ok (.iload 4, 2) := by decide +kernel
theorem dX8_findField_95 : decode cX8_findField 95 = .ok (.invokevirtual 173, 3) := by decide +kernel
theorem dX8_findField_98 : decode cX8_findField 98 = .ok (.istore 5, 2) := by decide +kernel
theorem dX8_findField_100 : decode cX8_findField 100 = .ok (.iload 5, 2) := by decide +kernel
theorem dX8_findField_102 : decode cX8_findField 102 = .ok (.ireturn, 1) := by decide +kernel
theorem dX8_candidates_0 : decode cX8_candidates 0 = .ok (.bipush 10, 2) := by decide +kernel
theorem dX8_candidates_2 : decode cX8_candidates 2 = .ok (.iload_n 1, 1) := by decide +kernel
theorem dX8_candidates_3 : decode cX8_candidates 3 = .ok (.imul, 1) := by decide +kernel
theorem dX8_candidates_4 : decode cX8_candidates 4 = .ok (.istore 5, 2) := by decide +kernel
theorem dX8_candidates_6 : decode cX8_candidates 6 = .ok (.iconst 0, 1) := by decide +kernel
theorem dX8_candidates_7 : decode cX8_candidates 7 = .ok (.istore 6, 2) := by decide +kernel
theorem dX8_candidates_9 : decode cX8_candidates 9 = .ok (.iload 6, 2) := by decide +kernel
theorem dX8_candidates_11 : decode cX8_candidates 11 = .ok (.aload_n 0, 1) := by decide +kernel
theorem dX8_candidates_12 : decode cX8_candidates 12 = .ok (.getfield 13, 3) := by decide +kernel
theorem dX8_candidates_15 : decode cX8_candidates 15 = .ok (.iload_n 1, 1) := by decide +kernel
theorem dX8_candidates_16 : decode cX8_candidates 16 = .ok (.iaload, 1) := by decide +kernel
theorem dX8_candidates_17 : decode cX8_candidates 17 = .ok (.if_icmp .ge 103, 3) := by decide +kernel
theorem dX8_candidates_20 : decode cX8_candidates 20 = .ok (.aload_n 0, 1) := by decide +kernel
theorem dX8_candidates_21 : decode cX8_candidates 21 = .ok (.getfield 20, 3) := by decide +kernel
theorem dX8_candidates_24 : decode cX8_candidates 24 = .ok (.iload 5, 2) := by decide +kernel
theorem dX8_candidates_26 : decode cX8_candidates 26 = .ok (.iload 6, 2) := by decide +kernel
theorem dX8_candidates_28 : decode cX8_candidates 28 = .ok (.iadd, 1) := by decide +kernel
theorem dX8_candidates_29 : decode cX8_candidates 29 = .ok (.baload, 1) := by decide +kernel
theorem dX8_candidates_30 : decode cX8_candidates 30 = .ok (.ifCond .eq 43, 3) := by decide +kernel
theorem dX8_candidates_33 : decode cX8_candidates 33 = .ok (.aload_n 0, 1) := by decide +kernel
theorem dX8_candidates_34 : decode cX8_candidates 34 = .ok (.iload_n 1, 1) := by decide +kernel
theorem dX8_candidates_35 : decode cX8_candidates 35 = .ok (.aload_n 0, 1) := by decide +kernel
theorem dX8_candidates_36 : decode cX8_candidates 36 = .ok (.getfield 17, 3) := by decide +kernel
theorem dX8_candidates_39 : decode cX8_candidates 39 = .ok (.iload 5, 2) := by decide +kernel
theorem dX8_candidates_41 : decode cX8_candidates 41 = .ok (.iload 6, 2) := by decide +kernel
theorem dX8_candidates_43 : decode cX8_candidates 43 = .ok (.iadd, 1) := by decide +kernel
theorem dX8_candidates_44 : decode cX8_candidates 44 = .ok (.iaload, 1) := by decide +kernel
theorem dX8_candidates_45 : decode cX8_candidates 45 = .ok (.aload_n 0, 1) := by decide +kernel
theorem dX8_candidates_46 : decode cX8_candidates 46 = .ok (.getfield 17, 3) := by decide +kernel
theorem dX8_candidates_49 : decode cX8_candidates 49 = .ok (.iload_n 2, 1) := by decide +kernel
theorem dX8_candidates_50 : decode cX8_candidates 50 = .ok (.iaload, 1) := by decide +kernel
theorem dX8_candidates_51 : decode cX8_candidates 51 = .ok (.invokevirtual 167, 3) := by decide +kernel
theorem dX8_candidates_54 : decode cX8_candidates 54 = .ok (.ifCond .eq 19, 3) := by decide +kernel
theorem dX8_candidates_57 : decode cX8_candidates 57 = .ok (.aload_n 0, 1) := by decide +kernel
theorem dX8_candidates_58 : decode cX8_candidates 58 = .ok (.iload 5, 2) := by decide +kernel
theorem dX8_candidates_60 : decode cX8_candidates 60 = .ok (.iload 6, 2) := by decide +kernel
theorem dX8_candidates_62 : decode cX8_candidates 62 = .ok (.iadd, 1) := by decide +kernel
theorem dX8_candidates_63 : decode cX8_candidates 63 = .ok (.iconst 1, 1) := by decide +kernel
theorem dX8_candidates_64 : decode cX8_candidates 64 = .ok (.iload_n 3, 1) := by decide +kernel
theorem dX8_candidates_65 : decode cX8_candidates 65 = .ok (.iload 4, 2) := by decide +kernel
theorem dX8_candidates_67 : decode cX8_candidates 67 = .ok (.invokevirtual 155, 3) := by decide +kernel
theorem dX8_candidates_70 : decode cX8_candidates 70 = .ok (.goto 4, 3) := by decide +kernel
theorem dX8_candidates_73 : decode cX8_candidates 73 = .ok (.iconst (-1), 1) := by decide +kernel
theorem dX8_candidates_74 : decode cX8_candidates 74 = .ok (.istore 7, 2) := by decide +kernel
theorem dX8_candidates_76 : decode cX8_candidates 76 = .ok (.aload_n 0, 1) := by decide +kernel
theorem dX8_candidates_77 : decode cX8_candidates 77 = .ok (.getfield 95, 3) := by decide +kernel
theorem dX8_candidates_80 : decode cX8_candidates 80 = .ok (.iload 6, 2) := by decide +kernel
theorem dX8_candidates_82 : decode cX8_candidates 82 = .ok (.iload 7, 2) := by decide +kernel
theorem dX8_candidates_84 : decode cX8_candidates 84 = .ok (.iconst (-1), 1) := by decide +kernel
theorem dX8_candidates_85 : decode cX8_candidates 85 = .ok (.if_icmp .eq 27, 3) := by decide +kernel
theorem dX8_candidates_88 : decode cX8_candidates 88 = .ok (.aload_n 0, 1) := by decide +kernel
theorem dX8_candidates_89 : decode cX8_candidates 89 = .ok (.getfield 56, 3) := by decide +kernel
theorem dX8_candidates_92 : decode cX8_candidates 92 = .ok (.iload 7, 2) := by decide +kernel
theorem dX8_candidates_94 : decode cX8_candidates 94 = .ok (.baload, 1) := by decide +kernel
theorem dX8_candidates_95 : decode cX8_candidates 95 = .ok (.ifCond .ne 17, 3) := by decide +kernel
theorem dX8_candidates_98 : decode cX8_candidates 98 = .ok (.aload_n 0, 1) := by decide +kernel
theorem dX8_candidates_99 : decode cX8_candidates 99 = .ok (.getfield 53, 3) := by decide +kernel
theorem dX8_candidates_102 : decode cX8_candidates 102 = .ok (.iload 7, 2) := by decide +kernel
theorem dX8_candidates_104 : decode cX8_candidates 104 = .ok (.iaload, 1) := by decide +kernel
theorem dX8_candidates_105 : decode cX8_candidates 105 = .ok (.ifCond .le 7, 3) := by decide +kernel
theorem dX8_candidates_108 : decode cX8_candidates 108 = .ok (.iconst 1, 1) := by decide +kernel
theorem dX8_candidates_109 : decode cX8_candidates 109 = .ok (.goto 4, 3) := by decide +kernel
theorem dX8_candidates_112 : decode cX8_candidates 112 = .ok (.iconst 0, 1) := by decide +kernel
theorem dX8_candidates_113 : decode cX8_candidates 113 = .ok (.bastore, 1) := by decide +kernel
theorem dX8_candidates_114 : decode cX8_candidates 114 = .ok (.iinc 6 1, 3) := by decide +kernel
theorem dX8_candidates_117 : decode cX8_candidates 117 = .ok (.goto (-108), 3) := by decide +kernel
theorem dX8_candidates_120 : decode cX8_candidates 120 = .ok (.iconst 0, 1) := by decide +kernel
theorem dX8_candidates_121 : decode cX8_candidates 121 = .ok (.istore 6, 2) := by decide +kernel
theorem dX8_candidates_123 : decode cX8_candidates 123 = .ok (.iconst 0, 1) := by decide +kernel
theorem dX8_candidates_124 : decode cX8_candidates 124 = .ok (.istore 7, 2) := by decide +kernel
theorem dX8_candidates_126 : decode cX8_candidates 126 = .ok (.iconst 0, 1) := by decide +kernel
theorem dX8_candidates_127 : decode cX8_candidates 127 = .ok (.istore 8, 2) := by decide +kernel
theorem dX8_candidates_129 : decode cX8_candidates 129 = .ok (.iload 8, 2) := by decide +kernel
theorem dX8_candidates_131 : decode cX8_candidates 131 = .ok (.aload_n 0, 1) := by decide +kernel
theorem dX8_candidates_132 : decode cX8_candidates 132 = .ok (.getfield 13, 3) := by decide +kernel
theorem dX8_candidates_135 : decode cX8_candidates 135 = .ok (.iload_n 1, 1) := by decide +kernel
theorem dX8_candidates_136 : decode cX8_candidates 136 = .ok (.iaload, 1) := by decide +kernel
theorem dX8_candidates_137 : decode cX8_candidates 137 = .ok (.if_icmp .ge 86, 3) := by decide +kernel
theorem dX8_candidates_140 : decode cX8_candidates 140 = .ok (.iconst 0, 1) := by decide +kernel
theorem dX8_candidates_141 : decode cX8_candidates 141 = .ok (.istore 9, 2) := by decide +kernel
theorem dX8_candidates_143 : decode cX8_candidates 143 = .ok (.iload 9, 2) := by decide +kernel
theorem dX8_candidates_145 : decode cX8_candidates 145 = .ok (.aload_n 0, 1) := by decide +kernel
theorem dX8_candidates_146 : decode cX8_candidates 146 = .ok (.getfield 13, 3) := by decide +kernel
theorem dX8_candidates_149 : decode cX8_candidates 149 = .ok (.iload_n 1, 1) := by decide +kernel
theorem dX8_candidates_150 : decode cX8_candidates 150 = .ok (.iaload, 1) := by decide +kernel
theorem dX8_candidates_151 : decode cX8_candidates 151 = .ok (.if_icmp .ge 66, 3) := by decide +kernel
theorem dX8_candidates_154 : decode cX8_candidates 154 = .ok (.aload_n 0, 1) := by decide +kernel
theorem dX8_candidates_155 : decode cX8_candidates 155 = .ok (.getfield 95, 3) := by decide +kernel
theorem dX8_candidates_158 : decode cX8_candidates 158 = .ok (.iload 8, 2) := by decide +kernel
theorem dX8_candidates_160 : decode cX8_candidates 160 = .ok (.baload, 1) := by decide +kernel
theorem dX8_candidates_161 : decode cX8_candidates 161 = .ok (.ifCond .eq 50, 3) := by decide +kernel
theorem dX8_candidates_164 : decode cX8_candidates 164 = .ok (.aload_n 0, 1) := by decide +kernel
theorem dX8_candidates_165 : decode cX8_candidates 165 = .ok (.getfield 95, 3) := by decide +kernel
theorem dX8_candidates_168 : decode cX8_candidates 168 = .ok (.iload 9, 2) := by decide +kernel
theorem dX8_candidates_170 : decode cX8_candidates 170 = .ok (.baload, 1) := by decide +kernel
theorem dX8_candidates_171 : decode cX8_candidates 171 = .ok (.ifCond .eq 40, 3) := by decide +kernel
theorem dX8_candidates_174 : decode cX8_candidates 174 = .ok (.aload_n 0, 1) := by decide +kernel
theorem dX8_candidates_175 : decode cX8_candidates 175 = .ok (.iload_n 1, 1) := by decide +kernel
theorem dX8_candidates_176 : decode cX8_candidates 176 = .ok (.aload_n 0, 1) := by decide +kernel
theorem dX8_candidates_177 : decode cX8_candidates 177 = .ok (.getfield 17, 3) := by decide +kernel
theorem dX8_candidates_180 : decode cX8_candidates 180 = .ok (.iload 5, 2) := by decide +kernel
theorem dX8_candidates_182 : decode cX8_candidates 182 = .ok (.iload 8, 2) := by decide +kernel
theorem dX8_candidates_184 : decode cX8_candidates 184 = .ok (.iadd, 1) := by decide +kernel
theorem dX8_candidates_185 : decode cX8_candidates 185 = .ok (.iaload, 1) := by decide +kernel
theorem dX8_candidates_186 : decode cX8_candidates 186 = .ok (.aload_n 0, 1) := by decide +kernel
theorem dX8_candidates_187 : decode cX8_candidates 187 = .ok (.getfield 17, 3) := by decide +kernel
theorem dX8_candidates_190 : decode cX8_candidates 190 = .ok (.iload 5, 2) := by decide +kernel
theorem dX8_candidates_192 : decode cX8_candidates 192 = .ok (.iload 9, 2) := by decide +kernel
theorem dX8_candidates_194 : decode cX8_candidates 194 = .ok (.iadd, 1) := by decide +kernel
theorem dX8_candidates_195 : decode cX8_candidates 195 = .ok (.iaload, 1) := by decide +kernel
theorem dX8_candidates_196 : decode cX8_candidates 196 = .ok (.invokevirtual 167, 3) := by decide +kernel
theorem dX8_candidates_199 : decode cX8_candidates 199 = .ok (.ifCond .eq 12, 3) := by decide +kernel
theorem dX8_candidates_202 : decode cX8_candidates 202 = .ok (.iload 7, 2) := by decide +kernel
theorem dX8_candidates_204 : decode cX8_candidates 204 = .ok (.iconst 1, 1) := by decide +kernel
theorem dX8_candidates_205 : decode cX8_candidates 205 = .ok (.iload 8, 2) := by decide +kernel
theorem dX8_candidates_207 : decode cX8_candidates 207 = .ok (.ishl, 1) := by decide +kernel
theorem dX8_candidates_208 : decode cX8_candidates 208 = .ok (.ior, 1) := by decide +kernel
theorem dX8_candidates_209 : decode cX8_candidates 209 = .ok (.istore 7, 2) := by decide +kernel
theorem dX8_candidates_211 : decode cX8_candidates 211 = .ok (.iinc 9 1, 3) := by decide +kernel
theorem dX8_candidates_214 : decode cX8_candidates 214 = .ok (.goto (-71), 3) := by decide +kernel
theorem dX8_candidates_217 : decode cX8_candidates 217 = .ok (.iinc 8 1, 3) := by decide +kernel
theorem dX8_candidates_220 : decode cX8_candidates 220 = .ok (.goto (-91), 3) := by decide +kernel
theorem dX8_candidates_223 : decode cX8_candidates 223 = .ok (.iconst 0, 1) := by decide +kernel
theorem dX8_candidates_224 : decode cX8_candidates 224 = .ok (.istore 8, 2) := by decide +kernel
theorem dX8_candidates_226 : decode cX8_candidates 226 = .ok (.iload 8, 2) := by decide +kernel
theorem dX8_candidates_228 : decode cX8_candidates 228 = .ok (.aload_n 0, 1) := by decide +kernel
theorem dX8_candidates_229 : decode cX8_candidates 229 = .ok (.getfield 13, 3) := by decide +kernel
theorem dX8_candidates_232 : decode cX8_candidates 232 = .ok (.iload_n 1, 1) := by decide +kernel
theorem dX8_candidates_233 : decode cX8_candidates 233 = .ok (.iaload, 1) := by decide +kernel
theorem dX8_candidates_234 : decode cX8_candidates 234 = .ok (.if_icmp .ge 61, 3) := by decide +kernel
theorem dX8_candidates_237 : decode cX8_candidates 237 = .ok (.aload_n 0, 1) := by decide +kernel
theorem dX8_candidates_238 : decode cX8_candidates 238 = .ok (.getfield 95, 3) := by decide +kernel
theorem dX8_candidates_241 : decode cX8_candidates 241 = .ok (.iload 8, 2) := by decide +kernel
theorem dX8_candidates_243 : decode cX8_candidates 243 = .ok (.aload_n 0, 1) := by decide +kernel
theorem dX8_candidates_244 : decode cX8_candidates 244 = .ok (.getfield 95, 3) := by decide +kernel
theorem dX8_candidates_247 : decode cX8_candidates 247 = .ok (.iload 8, 2) := by decide +kernel
theorem dX8_candidates_249 : decode cX8_candidates 249 = .ok (.baload, 1) := by decide +kernel
theorem dX8_candidates_250 : decode cX8_candidates 250 = .ok (.ifCond .eq 17, 3) := by decide +kernel
theorem dX8_candidates_253 : decode cX8_candidates 253 = .ok (.iload 7, 2) := by decide +kernel
theorem dX8_candidates_255 : decode cX8_candidates 255 = .ok (.iload 8, 2) := by decide +kernel
theorem dX8_candidates_257 : decode cX8_candidates 257 = .ok (.ishr, 1) := by decide +kernel
theorem dX8_candidates_258 : decode cX8_candidates 258 = .ok (.iconst 1, 1) := by decide +kernel
theorem dX8_candidates_259 : decode cX8_candidates 259 = .ok (.iand, 1) := by decide +kernel
theorem dX8_candidates_260 : decode cX8_candidates 260 = .ok (.ifCond .ne 7, 3) := by decide +kernel
theorem dX8_candidates_263 : decode cX8_candidates 263 = .ok (.iconst 1, 1) := by decide +kernel
theorem dX8_candidates_264 : decode cX8_candidates 264 = .ok (.goto 4, 3) := by decide +kernel
theorem dX8_candidates_267 : decode cX8_candidates 267 = .ok (.iconst 0, 1) := by decide +kernel
theorem dX8_candidates_268 : decode cX8_candidates 268 = .ok (.bastore, 1) := by decide +kernel
theorem dX8_candidates_269 : decode cX8_candidates 269 = .ok (.iload 6, 2) := by decide +kernel
theorem dX8_candidates_271 : decode cX8_candidates 271 = .ok (.aload_n 0, 1) := by decide +kernel
theorem dX8_candidates_272 : decode cX8_candidates 272 = .ok (.getfield 95, 3) := by decide +kernel
theorem dX8_candidates_275 : decode cX8_candidates 275 = .ok (.iload 8, 2) := by decide +kernel
theorem dX8_candidates_277 : decode cX8_candidates 277 = .ok (.baload, 1) := by decide +kernel
theorem dX8_candidates_278 : decode cX8_candidates 278 = .ok (.ifCond .eq 7, 3) := by decide +kernel
theorem dX8_candidates_281 : decode cX8_candidates 281 = .ok (.iconst 1, 1) := by decide +kernel
theorem dX8_candidates_282 : decode cX8_candidates 282 = .ok (.goto 4, 3) := by decide +kernel
theorem dX8_candidates_285 : decode cX8_candidates 285 = .ok (.iconst 0, 1) := by decide +kernel
theorem dX8_candidates_286 : decode cX8_candidates 286 = .ok (.iadd, 1) := by decide +kernel
theorem dX8_candidates_287 : decode cX8_candidates 287 = .ok (.istore 6, 2) := by decide +kernel
theorem dX8_candidates_289 : decode cX8_candidates 289 = .ok (.iinc 8 1, 3) := by decide +kernel
theorem dX8_candidates_292 : decode cX8_candidates 292 = .ok (.goto (-66), 3) := by decide +kernel
theorem dX8_candidates_295 : decode cX8_candidates 295 = .ok (.iload 6, 2) := by decide +kernel
theorem dX8_candidates_297 : decode cX8_candidates 297 = .ok (.ireturn, 1) := by decide +kernel
theorem dX8_onlyBody_0 : decode cX8_onlyBody 0 = .ok (.iconst (-1), 1) := by decide +kernel
theorem dX8_onlyBody_1 : decode cX8_onlyBody 1 = .ok (.istore 4, 2) := by decide +kernel
theorem dX8_onlyBody_3 : decode cX8_onlyBody 3 = .ok (.iconst 0, 1) := by decide +kernel
theorem dX8_onlyBody_4 : decode cX8_onlyBody 4 = .ok (.istore 5, 2) := by decide +kernel
theorem dX8_onlyBody_6 : decode cX8_onlyBody 6 = .ok (.iconst 0, 1) := by decide +kernel
theorem dX8_onlyBody_7 : decode cX8_onlyBody 7 = .ok (.istore 6, 2) := by decide +kernel
theorem dX8_onlyBody_9 : decode cX8_onlyBody 9 = .ok (.iload 6, 2) := by decide +kernel
theorem dX8_onlyBody_11 : decode cX8_onlyBody 11 = .ok (.aload_n 0, 1) := by decide +kernel
theorem dX8_onlyBody_12 : decode cX8_onlyBody 12 = .ok (.getfield 13, 3) := by decide +kernel
theorem dX8_onlyBody_15 : decode cX8_onlyBody 15 = .ok (.iload_n 1, 1) := by decide +kernel
theorem dX8_onlyBody_16 : decode cX8_onlyBody 16 = .ok (.iaload, 1) := by decide +kernel
theorem dX8_onlyBody_17 : decode cX8_onlyBody 17 = .ok (.if_icmp .ge 65, 3) := by decide +kernel
theorem dX8_onlyBody_20 : decode cX8_onlyBody 20 = .ok (.aload_n 0, 1) := by decide +kernel
theorem dX8_onlyBody_21 : decode cX8_onlyBody 21 = .ok (.getfield 95, 3) := by decide +kernel
theorem dX8_onlyBody_24 : decode cX8_onlyBody 24 = .ok (.iload 6, 2) := by decide +kernel
theorem dX8_onlyBody_26 : decode cX8_onlyBody 26 = .ok (.baload, 1) := by decide +kernel
theorem dX8_onlyBody_27 : decode cX8_onlyBody 27 = .ok (.ifCond .eq 20, 3) := by decide +kernel
theorem dX8_onlyBody_30 : decode cX8_onlyBody 30 = .ok (.aload_n 0, 1) := by decide +kernel
theorem dX8_onlyBody_31 : decode cX8_onlyBody 31 = .ok (.bipush 10, 2) := by decide +kernel
theorem dX8_onlyBody_33 : decode cX8_onlyBody 33 = .ok (.iload_n 1, 1) := by decide +kernel
theorem dX8_onlyBody_34 : decode cX8_onlyBody 34 = .ok (.imul, 1) := by decide +kernel
theorem dX8_onlyBody_35 : decode cX8_onlyBody 35 = .ok (.iload 6, 2) := by decide +kernel
theorem dX8_onlyBody_37 : decode cX8_onlyBody 37 = .ok (.iadd, 1) := by decide +kernel
theorem dX8_onlyBody_38 : decode cX8_onlyBody 38 = .ok (.iconst 1, 1) := by decide +kernel
theorem dX8_onlyBody_39 : decode cX8_onlyBody 39 = .ok (.iload_n 2, 1) := by decide +kernel
theorem dX8_onlyBody_40 : decode cX8_onlyBody 40 = .ok (.iload_n 3, 1) := by decide +kernel
theorem dX8_onlyBody_41 : decode cX8_onlyBody 41 = .ok (.invokevirtual 155, 3) := by decide +kernel
theorem dX8_onlyBody_44 : decode cX8_onlyBody 44 = .ok (.goto 4, 3) := by decide +kernel
theorem dX8_onlyBody_47 : decode cX8_onlyBody 47 = .ok (.iconst (-1), 1) := by decide +kernel
theorem dX8_onlyBody_48 : decode cX8_onlyBody 48 = .ok (.istore 7, 2) := by decide +kernel
theorem dX8_onlyBody_50 : decode cX8_onlyBody 50 = .ok (.iload 7, 2) := by decide +kernel
theorem dX8_onlyBody_52 : decode cX8_onlyBody 52 = .ok (.iconst (-1), 1) := by decide +kernel
theorem dX8_onlyBody_53 : decode cX8_onlyBody 53 = .ok (.if_icmp .eq 23, 3) := by decide +kernel
theorem dX8_onlyBody_56 : decode cX8_onlyBody 56 = .ok (.aload_n 0, 1) := by decide +kernel
theorem dX8_onlyBody_57 : decode cX8_onlyBody 57 = .ok (.getfield 59, 3) := by decide +kernel
theorem dX8_onlyBody_60 : decode cX8_onlyBody 60 = .ok (.iload 7, 2) := by decide +kernel
theorem dX8_onlyBody_62 : decode cX8_onlyBody 62 = .ok (.iaload, 1) := by decide +kernel
theorem dX8_onlyBody_63 : decode cX8_onlyBody 63 = .ok (.ifCond .ge 6, 3) := by decide +kernel
theorem dX8_onlyBody_66 : decode cX8_onlyBody 66 = .ok (.goto 10, 3) := by decide +kernel
theorem dX8_onlyBody_69 : decode cX8_onlyBody 69 = .ok (.iload 7, 2) := by decide +kernel
theorem dX8_onlyBody_71 : decode cX8_onlyBody 71 = .ok (.istore 4, 2) := by decide +kernel
theorem dX8_onlyBody_73 : decode cX8_onlyBody 73 = .ok (.iinc 5 1, 3) := by decide +kernel
theorem dX8_onlyBody_76 : decode cX8_onlyBody 76 = .ok (.iinc 6 1, 3) := by decide +kernel
theorem dX8_onlyBody_79 : decode cX8_onlyBody 79 = .ok (.goto (-70), 3) := by decide +kernel
theorem dX8_onlyBody_82 : decode cX8_onlyBody 82 = .ok (.iload 5, 2) := by decide +kernel
theorem dX8_onlyBody_84 : decode cX8_onlyBody 84 = .ok (.iconst 1, 1) := by decide +kernel
theorem dX8_onlyBody_85 : decode cX8_onlyBody 85 = .ok (.if_icmp .ne 8, 3) := by decide +kernel
theorem dX8_onlyBody_88 : decode cX8_onlyBody 88 = .ok (.iload 4, 2) := by decide +kernel
theorem dX8_onlyBody_90 : decode cX8_onlyBody 90 = .ok (.goto 4, 3) := by decide +kernel
theorem dX8_onlyBody_93 : decode cX8_onlyBody 93 = .ok (.iconst (-1), 1) := by decide +kernel
theorem dX8_onlyBody_94 : decode cX8_onlyBody 94 = .ok (.ireturn, 1) := by decide +kernel
theorem dX8_findMethod_0 : decode cX8_findMethod 0 = .ok (.aload_n 0, 1) := by decide +kernel
theorem dX8_findMethod_1 : decode cX8_findMethod 1 = .ok (.iload_n 2, 1) := by decide +kernel
theorem dX8_findMethod_2 : decode cX8_findMethod 2 = .ok (.iconst 1, 1) := by decide +kernel
theorem dX8_findMethod_3 : decode cX8_findMethod 3 = .ok (.iload_n 3, 1) := by decide +kernel
theorem dX8_findMethod_4 : decode cX8_findMethod 4 = .ok (.iload 4, 2) := by decide +kernel
theorem dX8_findMethod_6 : decode cX8_findMethod 6 = .ok (.invokevirtual 155, 3) := by decide +kernel
theorem dX8_findMethod_9 : decode cX8_findMethod 9 = .ok (.istore 5, 2) := by decide +kernel
theorem dX8_findMethod_11 : decode cX8_findMethod 11 = .ok (.iload_n 2, 1) := by decide +kernel
theorem dX8_findMethod_12 : decode cX8_findMethod 12 = .ok (.istore 6, 2) := by decide +kernel
theorem dX8_findMethod_14 : decode cX8_findMethod 14 = .ok (.iload 5, 2) := by decide +kernel
theorem dX8_findMethod_16 : decode cX8_findMethod 16 = .ok (.iconst (-1), 1) := by decide +kernel
theorem dX8_findMethod_17 : decode cX8_findMethod 17 = .ok (.if_icmp .ne 52, 3) := by decide +kernel
theorem dX8_findMethod_20 : decode cX8_findMethod 20 = .ok (.aload_n 0, 1) := by decide +kernel
theorem dX8_findMethod_21 : decode cX8_findMethod 21 = .ok (.getfield 20, 3) := by decide +kernel
theorem dX8_findMethod_24 : decode cX8_findMethod 24 = .ok (.iload_n 2, 1) := by decide +kernel
theorem dX8_findMethod_25 : decode cX8_findMethod 25 = .ok (.baload, 1) := by decide +kernel
theorem dX8_findMethod_26 : decode cX8_findMethod 26 = .ok (.ifCond .ne 43, 3) := by decide +kernel
theorem dX8_findMethod_29 : decode cX8_findMethod 29 = .ok (.aload_n 0, 1) := by decide +kernel
theorem dX8_findMethod_30 : decode cX8_findMethod 30 = .ok (.getfield 32, 3) := by decide +kernel
theorem dX8_findMethod_33 : decode cX8_findMethod 33 = .ok (.iload 6, 2) := by decide +kernel
theorem dX8_findMethod_35 : decode cX8_findMethod 35 = .ok (.iaload, 1) := by decide +kernel
theorem dX8_findMethod_36 : decode cX8_findMethod 36 = .ok (.iconst (-1), 1) := by decide +kernel
theorem dX8_findMethod_37 : decode cX8_findMethod 37 = .ok (.if_icmp .eq 32, 3) := by decide +kernel
theorem dX8_findMethod_40 : decode cX8_findMethod 40 = .ok (.aload_n 0, 1) := by decide +kernel
theorem dX8_findMethod_41 : decode cX8_findMethod 41 = .ok (.iload_n 1, 1) := by decide +kernel
theorem dX8_findMethod_42 : decode cX8_findMethod 42 = .ok (.aload_n 0, 1) := by decide +kernel
theorem dX8_findMethod_43 : decode cX8_findMethod 43 = .ok (.getfield 32, 3) := by decide +kernel
theorem dX8_findMethod_46 : decode cX8_findMethod 46 = .ok (.iload 6, 2) := by decide +kernel
theorem dX8_findMethod_48 : decode cX8_findMethod 48 = .ok (.iaload, 1) := by decide +kernel
theorem dX8_findMethod_49 : decode cX8_findMethod 49 = .ok (.invokevirtual 151, 3) := by decide +kernel
theorem dX8_findMethod_52 : decode cX8_findMethod 52 = .ok (.istore 6, 2) := by decide +kernel
theorem dX8_findMethod_54 : decode cX8_findMethod 54 = .ok (.aload_n 0, 1) := by decide +kernel
theorem dX8_findMethod_55 : decode cX8_findMethod 55 = .ok (.iload 6, 2) := by decide +kernel
theorem dX8_findMethod_57 : decode cX8_findMethod 57 = .ok (.iconst 1, 1) := by decide +kernel
theorem dX8_findMethod_58 : decode cX8_findMethod 58 = .ok (.iload_n 3, 1) := by decide +kernel
theorem dX8_findMethod_59 : decode cX8_findMethod 59 = .ok (.iload 4, 2) := by decide +kernel
theorem dX8_findMethod_61 : decode cX8_findMethod 61 = .ok (.invokevirtual 155, 3) := by decide +kernel
theorem dX8_findMethod_64 : decode cX8_findMethod 64 = .ok (.istore 5, 2) := by decide +kernel
theorem dX8_findMethod_66 : decode cX8_findMethod 66 = .ok (.goto (-52), 3) := by decide +kernel
theorem dX8_findMethod_69 : decode cX8_findMethod 69 = .ok (.iload 5, 2) := by decide +kernel
theorem dX8_findMethod_71 : decode cX8_findMethod 71 = .ok (.iconst (-1), 1) := by decide +kernel
theorem dX8_findMethod_72 : decode cX8_findMethod 72 = .ok (.if_icmp .eq 6, 3) := by decide +kernel
theorem dX8_findMethod_75 : decode cX8_findMethod 75 = .ok (.iload 5, 2) := by decide +kernel
theorem dX8_findMethod_77 : decode cX8_findMethod 77 = .ok (.ireturn, 1) := by decide +kernel
theorem dX8_findMethod_78 : decode cX8_findMethod 78 = .ok (.aload_n 0, 1) := by decide +kernel
theorem dX8_findMethod_79 : decode cX8_findMethod 79 = .ok (.iload_n 1, 1) := by decide +kernel
theorem dX8_findMethod_80 : decode cX8_findMethod 80 = .ok (.iload_n 2, 1) := by decide +kernel
theorem dX8_findMethod_81 : decode cX8_findMethod 81 = .ok (.iload_n 3, 1) := by decide +kernel
theorem dX8_findMethod_82 : decode cX8_findMethod 82 = .ok (.iload 4, 2) := by decide +kernel
theorem dX8_findMethod_84 : decode cX8_findMethod 84 = .ok (.invokevirtual 176, 3) := by decide +kernel
theorem dX8_findMethod_87 : decode cX8_findMethod 87 = .ok (.ifCond .ne 5, 3) := by decide +kernel
theorem dX8_findMethod_90 : decode cX8_findMethod 90 = .ok (.iconst (-1), 1) := by decide +kernel
theorem dX8_findMethod_91 : decode cX8_findMethod 91 = .ok (.ireturn, 1) := by decide +kernel
theorem dX8_findMethod_92 : decode cX8_findMethod 92 = .ok (.aload_n 0, 1) := by decide +kernel
theorem dX8_findMethod_93 : decode cX8_findMethod 93 = .ok (.iload_n 1, 1) := by decide +kernel
theorem dX8_findMethod_94 : decode cX8_findMethod 94 = .ok (.iload_n 3, 1) := by decide +kernel
theorem dX8_findMethod_95 : decode cX8_findMethod 95 = .ok (.iload 4, 2) := by decide +kernel
theorem dX8_findMethod_97 : decode cX8_findMethod 97 = .ok (.invokevirtual 179, 3) := by decide +kernel
theorem dX8_findMethod_100 : decode cX8_findMethod 100 = .ok (.istore 5, 2) := by decide +kernel
theorem dX8_findMethod_102 : decode cX8_findMethod 102 = .ok (.iconst 0, 1) := by decide +kernel
theorem dX8_findMethod_103 : decode cX8_findMethod 103 = .ok (.istore 7, 2) := by decide +kernel
theorem dX8_findMethod_105 : decode cX8_findMethod 105 = .ok (.iload 5, 2) := by decide +kernel
theorem dX8_findMethod_107 : decode cX8_findMethod 107 = .ok (.iconst (-1), 1) := by decide +kernel
theorem dX8_findMethod_108 : decode cX8_findMethod 108 = .ok (.if_icmp .ne 36, 3) := by decide +kernel
theorem dX8_findMethod_111 : decode cX8_findMethod 111 = .ok (.aload_n 0, 1) := by decide +kernel
theorem dX8_findMethod_112 : decode cX8_findMethod 112 = .ok (.getfield 95, 3) := by decide +kernel
theorem dX8_findMethod_115 : decode cX8_findMethod 115 = .ok (.iload 7, 2) := by decide +kernel
theorem dX8_findMethod_117 : decode cX8_findMethod 117 = .ok (.baload, 1) := by decide +kernel
theorem dX8_findMethod_118 : decode cX8_findMethod 118 = .ok (.ifCond .eq 20, 3) := by decide +kernel
theorem dX8_findMethod_121 : decode cX8_findMethod 121 = .ok (.aload_n 0, 1) := by decide +kernel
theorem dX8_findMethod_122 : decode cX8_findMethod 122 = .ok (.bipush 10, 2) := by decide +kernel
theorem dX8_findMethod_124 : decode cX8_findMethod 124 = .ok (.iload_n 1, 1) := by decide +kernel
theorem dX8_findMethod_125 : decode cX8_findMethod 125 = .ok (.imul, 1) := by decide +kernel
theorem dX8_findMethod_126 : decode cX8_findMethod 126 = .ok (.iload 7, 2) := by decide +kernel
theorem dX8_findMethod_128 : decode cX8_findMethod 128 = .ok (.iadd, 1) := by decide +kernel
theorem dX8_findMethod_129 : decode cX8_findMethod 129 = .ok (.iconst 1, 1) := by decide +kernel
theorem dX8_findMethod_130 : decode cX8_findMethod 130 = .ok (.iload_n 3, 1) := by decide +kernel
theorem dX8_findMethod_131 : decode cX8_findMethod 131 = .ok (.iload 4, 2) := by decide +kernel
theorem dX8_findMethod_133 : decode cX8_findMethod 133 = .ok (.invokevirtual 155, 3) := by decide +kernel
theorem dX8_findMethod_136 : decode cX8_findMethod 136 = .ok (.istore 5, 2) := by decide +kernel
theorem dX8_findMethod_138 : decode cX8_findMethod 138 = .ok (.iinc 7 1, 3) := by decide +kernel
theorem dX8_findMethod_141 : decode cX8_findMethod 141 = .ok (.goto (-36), 3) := by decide +kernel
theorem dX8_findMethod_144 : decode cX8_findMethod 144 = .ok (.iload 5, 2) := by decide +kernel
theorem dX8_findMethod_146 : decode cX8_findMethod 146 = .ok (.ireturn, 1) := by decide +kernel
theorem dX8_typeOf_0 : decode cX8_typeOf 0 = .ok (.iload_n 0, 1) := by decide +kernel
theorem dX8_typeOf_1 : decode cX8_typeOf 1 = .ok (.bipush 6, 2) := by decide +kernel
theorem dX8_typeOf_3 : decode cX8_typeOf 3 = .ok (.idiv, 1) := by decide +kernel
theorem dX8_typeOf_4 : decode cX8_typeOf 4 = .ok (.ireturn, 1) := by decide +kernel
theorem dX8_selected_0 : decode cX8_selected 0 = .ok (.aload_n 0, 1) := by decide +kernel
theorem dX8_selected_1 : decode cX8_selected 1 = .ok (.getfield 53, 3) := by decide +kernel
theorem dX8_selected_4 : decode cX8_selected 4 = .ok (.iload_n 2, 1) := by decide +kernel
theorem dX8_selected_5 : decode cX8_selected 5 = .ok (.iaload, 1) := by decide +kernel
theorem dX8_selected_6 : decode cX8_selected 6 = .ok (.ifCond .ne 5, 3) := by decide +kernel
theorem dX8_selected_9 : decode cX8_selected 9 = .ok (.iload_n 2, 1) := by decide +kernel
theorem dX8_selected_10 : decode cX8_selected 10 = .ok (.ireturn, 1) := by decide +kernel
theorem dX8_selected_11 : decode cX8_selected 11 = .ok (.iload_n 2, 1) := by decide +kernel
theorem dX8_selected_12 : decode cX8_selected 12 = .ok (.invokestatic 183, 3) := by decide +kernel
theorem dX8_selected_15 : decode cX8_selected 15 = .ok (.istore 4, 2) := by decide +kernel
theorem dX8_selected_17 : decode cX8_selected 17 = .ok (.iload_n 3, 1) := by decide +kernel
theorem dX8_selected_18 : decode cX8_selected 18 = .ok (.istore 5, 2) := by decide +kernel
theorem dX8_selected_20 : decode cX8_selected 20 = .ok (.iload 5, 2) := by decide +kernel
theorem dX8_selected_22 : decode cX8_selected 22 = .ok (.iconst (-1), 1) := by decide +kernel
theorem dX8_selected_23 : decode cX8_selected 23 = .ok (.if_icmp .eq 118, 3) := by decide +kernel
theorem dX8_selected_26 : decode cX8_selected 26 = .ok (.aload_n 0, 1) := by decide +kernel
theorem dX8_selected_27 : decode cX8_selected 27 = .ok (.iload 5, 2) := by decide +kernel
theorem dX8_selected_29 : decode cX8_selected 29 = .ok (.iconst 1, 1) := by decide +kernel
theorem dX8_selected_30 : decode cX8_selected 30 = .ok (.aload_n 0, 1) := by decide +kernel
theorem dX8_selected_31 : decode cX8_selected 31 = .ok (.getfield 47, 3) := by decide +kernel
theorem dX8_selected_34 : decode cX8_selected 34 = .ok (.iload_n 2, 1) := by decide +kernel
theorem dX8_selected_35 : decode cX8_selected 35 = .ok (.iaload, 1) := by decide +kernel
theorem dX8_selected_36 : decode cX8_selected 36 = .ok (.aload_n 0, 1) := by decide +kernel
theorem dX8_selected_37 : decode cX8_selected 37 = .ok (.getfield 50, 3) := by decide +kernel
theorem dX8_selected_40 : decode cX8_selected 40 = .ok (.iload_n 2, 1) := by decide +kernel
theorem dX8_selected_41 : decode cX8_selected 41 = .ok (.iaload, 1) := by decide +kernel
theorem dX8_selected_42 : decode cX8_selected 42 = .ok (.invokevirtual 155, 3) := by decide +kernel
theorem dX8_selected_45 : decode cX8_selected 45 = .ok (.istore 6, 2) := by decide +kernel
theorem dX8_selected_47 : decode cX8_selected 47 = .ok (.iload 6, 2) := by decide +kernel
theorem dX8_selected_49 : decode cX8_selected 49 = .ok (.iconst (-1), 1) := by decide +kernel
theorem dX8_selected_50 : decode cX8_selected 50 = .ok (.if_icmp .eq 59, 3) := by decide +kernel
theorem dX8_selected_53 : decode cX8_selected 53 = .ok (.aload_n 0, 1) := by decide +kernel
theorem dX8_selected_54 : decode cX8_selected 54 = .ok (.getfield 56, 3) := by decide +kernel
theorem dX8_selected_57 : decode cX8_selected 57 = .ok (.iload 6, 2) := by decide +kernel
theorem dX8_selected_59 : decode cX8_selected 59 = .ok (.baload, 1) := by decide +kernel
theorem dX8_selected_60 : decode cX8_selected 60 = .ok (.ifCond .ne 49, 3) := by decide +kernel
theorem dX8_selected_63 : decode cX8_selected 63 = .ok (.aload_n 0, 1) := by decide +kernel
theorem dX8_selected_64 : decode cX8_selected 64 = .ok (.getfield 53, 3) := by decide +kernel
theorem dX8_selected_67 : decode cX8_selected 67 = .ok (.iload 6, 2) := by decide +kernel
theorem dX8_selected_69 : decode cX8_selected 69 = .ok (.iaload, 1) := by decide +kernel
theorem dX8_selected_70 : decode cX8_selected 70 = .ok (.ifCond .le 39, 3) := by decide +kernel
theorem dX8_selected_73 : decode cX8_selected 73 = .ok (.iload 6, 2) := by decide +kernel
theorem dX8_selected_75 : decode cX8_selected 75 = .ok (.iload_n 2, 1) := by decide +kernel
theorem dX8_selected_76 : decode cX8_selected 76 = .ok (.if_icmp .eq 30, 3) := by decide +kernel
theorem dX8_selected_79 : decode cX8_selected 79 = .ok (.aload_n 0, 1) := by decide +kernel
theorem dX8_selected_80 : decode cX8_selected 80 = .ok (.getfield 53, 3) := by decide +kernel
theorem dX8_selected_83 : decode cX8_selected 83 = .ok (.iload_n 2, 1) := by decide +kernel
theorem dX8_selected_84 : decode cX8_selected 84 = .ok (.iaload, 1) := by decide +kernel
theorem dX8_selected_85 : decode cX8_selected 85 = .ok (.iconst 1, 1) := by decide +kernel
theorem dX8_selected_86 : decode cX8_selected 86 = .ok (.if_icmp .gt 20, 3) := by decide +kernel
theorem dX8_selected_89 : decode cX8_selected 89 = .ok (.aload_n 0, 1) := by decide +kernel
theorem dX8_selected_90 : decode cX8_selected 90 = .ok (.getfield 26, 3) := by decide +kernel
theorem dX8_selected_93 : decode cX8_selected 93 = .ok (.iload 5, 2) := by decide +kernel
theorem dX8_selected_95 : decode cX8_selected 95 = .ok (.iaload, 1) := by decide +kernel
theorem dX8_selected_96 : decode cX8_selected 96 = .ok (.aload_n 0, 1) := by decide +kernel
theorem dX8_selected_97 : decode cX8_selected 97 = .ok (.getfield 26, 3) := by decide +kernel
theorem dX8_selected_100 : decode cX8_selected 100 = .ok (.iload 4, 2) := by decide +kernel
theorem dX8_selected_102 : decode cX8_selected 102 = .ok (.iaload, 1) := by decide +kernel
theorem dX8_selected_103 : decode cX8_selected 103 = .ok (.if_icmp .ne 6, 3) := by decide +kernel
theorem dX8_selected_106 : decode cX8_selected 106 = .ok (.iload 6, 2) := by decide +kernel
theorem dX8_selected_108 : decode cX8_selected 108 = .ok (.ireturn, 1) := by decide +kernel
theorem dX8_selected_109 : decode cX8_selected 109 = .ok (.aload_n 0, 1) := by decide +kernel
theorem dX8_selected_110 : decode cX8_selected 110 = .ok (.getfield 32, 3) := by decide +kernel
theorem dX8_selected_113 : decode cX8_selected 113 = .ok (.iload 5, 2) := by decide +kernel
theorem dX8_selected_115 : decode cX8_selected 115 = .ok (.iaload, 1) := by decide +kernel
theorem dX8_selected_116 : decode cX8_selected 116 = .ok (.iconst (-1), 1) := by decide +kernel
theorem dX8_selected_117 : decode cX8_selected 117 = .ok (.if_icmp .ne 7, 3) := by decide +kernel
theorem dX8_selected_120 : decode cX8_selected 120 = .ok (.iconst (-1), 1) := by decide +kernel
theorem dX8_selected_121 : decode cX8_selected 121 = .ok (.goto 15, 3) := by decide +kernel
theorem dX8_selected_124 : decode cX8_selected 124 = .ok (.aload_n 0, 1) := by decide +kernel
theorem dX8_selected_125 : decode cX8_selected 125 = .ok (.iload_n 1, 1) := by decide +kernel
theorem dX8_selected_126 : decode cX8_selected 126 = .ok (.aload_n 0, 1) := by decide +kernel
theorem dX8_selected_127 : decode cX8_selected 127 = .ok (.getfield 32, 3) := by decide +kernel
theorem dX8_selected_130 : decode cX8_selected 130 = .ok (.iload 5, 2) := by decide +kernel
theorem dX8_selected_132 : decode cX8_selected 132 = .ok (.iaload, 1) := by decide +kernel
theorem dX8_selected_133 : decode cX8_selected 133 = .ok (.invokevirtual 151, 3) := by decide +kernel
theorem dX8_selected_136 : decode cX8_selected 136 = .ok (.istore 5, 2) := by decide +kernel
theorem dX8_selected_138 : decode cX8_selected 138 = .ok (.goto (-118), 3) := by decide +kernel
theorem dX8_selected_141 : decode cX8_selected 141 = .ok (.aload_n 0, 1) := by decide +kernel
theorem dX8_selected_142 : decode cX8_selected 142 = .ok (.iload_n 1, 1) := by decide +kernel
theorem dX8_selected_143 : decode cX8_selected 143 = .ok (.iload_n 3, 1) := by decide +kernel
theorem dX8_selected_144 : decode cX8_selected 144 = .ok (.aload_n 0, 1) := by decide +kernel
theorem dX8_selected_145 : decode cX8_selected 145 = .ok (.getfield 47, 3) := by decide +kernel
theorem dX8_selected_148 : decode cX8_selected 148 = .ok (.iload_n 2, 1) := by decide +kernel
theorem dX8_selected_149 : decode cX8_selected 149 = .ok (.iaload, 1) := by decide +kernel
theorem dX8_selected_150 : decode cX8_selected 150 = .ok (.aload_n 0, 1) := by decide +kernel
theorem dX8_selected_151 : decode cX8_selected 151 = .ok (.getfield 50, 3) := by decide +kernel
theorem dX8_selected_154 : decode cX8_selected 154 = .ok (.iload_n 2, 1) := by decide +kernel
theorem dX8_selected_155 : decode cX8_selected 155 = .ok (.iaload, 1) := by decide +kernel
theorem dX8_selected_156 : decode cX8_selected 156 = .ok (.invokevirtual 176, 3) := by decide +kernel
theorem dX8_selected_159 : decode cX8_selected 159 = .ok (.ifCond .ne 7, 3) := by decide +kernel
theorem dX8_selected_162 : decode cX8_selected 162 = .ok (.iconst (-1), 1) := by decide +kernel
theorem dX8_selected_163 : decode cX8_selected 163 = .ok (.goto 20, 3) := by decide +kernel
theorem dX8_selected_166 : decode cX8_selected 166 = .ok (.aload_n 0, 1) := by decide +kernel
theorem dX8_selected_167 : decode cX8_selected 167 = .ok (.iload_n 1, 1) := by decide +kernel
theorem dX8_selected_168 : decode cX8_selected 168 = .ok (.aload_n 0, 1) := by decide +kernel
theorem dX8_selected_169 : decode cX8_selected 169 = .ok (.getfield 47, 3) := by decide +kernel
theorem dX8_selected_172 : decode cX8_selected 172 = .ok (.iload_n 2, 1) := by decide +kernel
theorem dX8_selected_173 : decode cX8_selected 173 = .ok (.iaload, 1) := by decide +kernel
theorem dX8_selected_174 : decode cX8_selected 174 = .ok (.aload_n 0, 1) := by decide +kernel
theorem dX8_selected_175 : decode cX8_selected 175 = .ok (.getfield 50, 3) := by decide +kernel
theorem dX8_selected_178 : decode cX8_selected 178 = .ok (.iload_n 2, 1) := by decide +kernel
theorem dX8_selected_179 : decode cX8_selected 179 = .ok (.iaload, 1) := by decide +kernel
theorem dX8_selected_180 : decode cX8_selected 180 = .ok (.invokevirtual 179, 3) := by decide +kernel
theorem dX8_selected_183 : decode cX8_selected 183 = .ok (.ireturn, 1) := by decide +kernel
theorem dX8_find_0 : decode cX8_find 0 = .ok (.aload_n 0, 1) := by decide +kernel
theorem dX8_find_1 : decode cX8_find 1 = .ok (.aload_n 0, 1) := by decide +kernel
theorem dX8_find_2 : decode cX8_find 2 = .ok (.iload_n 1, 1) := by decide +kernel
theorem dX8_find_3 : decode cX8_find 3 = .ok (.invokevirtual 170, 3) := by decide +kernel
theorem dX8_find_6 : decode cX8_find 6 = .ok (.putfield 122, 3) := by decide +kernel
theorem dX8_find_9 : decode cX8_find 9 = .ok (.aload_n 0, 1) := by decide +kernel
theorem dX8_find_10 : decode cX8_find 10 = .ok (.getfield 122, 3) := by decide +kernel
theorem dX8_find_13 : decode cX8_find 13 = .ok (.ifCond .le 5, 3) := by decide +kernel
theorem dX8_find_16 : decode cX8_find 16 = .ok (.iconst 0, 1) := by decide +kernel
theorem dX8_find_17 : decode cX8_find 17 = .ok (.ireturn, 1) := by decide +kernel
theorem dX8_find_18 : decode cX8_find 18 = .ok (.aload_n 0, 1) := by decide +kernel
theorem dX8_find_19 : decode cX8_find 19 = .ok (.iload_n 1, 1) := by decide +kernel
theorem dX8_find_20 : decode cX8_find 20 = .ok (.iload_n 2, 1) := by decide +kernel
theorem dX8_find_21 : decode cX8_find 21 = .ok (.invokevirtual 151, 3) := by decide +kernel
theorem dX8_find_24 : decode cX8_find 24 = .ok (.istore 6, 2) := by decide +kernel
theorem dX8_find_26 : decode cX8_find 26 = .ok (.iload 6, 2) := by decide +kernel
theorem dX8_find_28 : decode cX8_find 28 = .ok (.iconst (-1), 1) := by decide +kernel
theorem dX8_find_29 : decode cX8_find 29 = .ok (.if_icmp .ne 5, 3) := by decide +kernel
theorem dX8_find_32 : decode cX8_find 32 = .ok (.iconst (-1), 1) := by decide +kernel
theorem dX8_find_33 : decode cX8_find 33 = .ok (.ireturn, 1) := by decide +kernel
theorem dX8_find_34 : decode cX8_find 34 = .ok (.iload_n 3, 1) := by decide +kernel
theorem dX8_find_35 : decode cX8_find 35 = .ok (.ifCond .eq 17, 3) := by decide +kernel
theorem dX8_find_38 : decode cX8_find 38 = .ok (.aload_n 0, 1) := by decide +kernel
theorem dX8_find_39 : decode cX8_find 39 = .ok (.iload_n 1, 1) := by decide +kernel
theorem dX8_find_40 : decode cX8_find 40 = .ok (.iload 6, 2) := by decide +kernel
theorem dX8_find_42 : decode cX8_find 42 = .ok (.iload 4, 2) := by decide +kernel
theorem dX8_find_44 : decode cX8_find 44 = .ok (.iload 5, 2) := by decide +kernel
theorem dX8_find_46 : decode cX8_find 46 = .ok (.invokevirtual 186, 3) := by decide +kernel
theorem dX8_find_49 : decode cX8_find 49 = .ok (.goto 14, 3) := by decide +kernel
theorem dX8_find_52 : decode cX8_find 52 = .ok (.aload_n 0, 1) := by decide +kernel
theorem dX8_find_53 : decode cX8_find 53 = .ok (.iload_n 1, 1) := by decide +kernel
theorem dX8_find_54 : decode cX8_find 54 = .ok (.iload 6, 2) := by decide +kernel
theorem dX8_find_56 : decode cX8_find 56 = .ok (.iload 4, 2) := by decide +kernel
theorem dX8_find_58 : decode cX8_find 58 = .ok (.iload 5, 2) := by decide +kernel
theorem dX8_find_60 : decode cX8_find 60 = .ok (.invokevirtual 173, 3) := by decide +kernel
theorem dX8_find_63 : decode cX8_find 63 = .ok (.istore 7, 2) := by decide +kernel
theorem dX8_find_65 : decode cX8_find 65 = .ok (.iload 7, 2) := by decide +kernel
theorem dX8_find_67 : decode cX8_find 67 = .ok (.iconst (-1), 1) := by decide +kernel
theorem dX8_find_68 : decode cX8_find 68 = .ok (.if_icmp .ne 7, 3) := by decide +kernel
theorem dX8_find_71 : decode cX8_find 71 = .ok (.iconst (-1), 1) := by decide +kernel
theorem dX8_find_72 : decode cX8_find 72 = .ok (.goto 13, 3) := by decide +kernel
theorem dX8_find_75 : decode cX8_find 75 = .ok (.aload_n 0, 1) := by decide +kernel
theorem dX8_find_76 : decode cX8_find 76 = .ok (.getfield 17, 3) := by decide +kernel
theorem dX8_find_79 : decode cX8_find 79 = .ok (.iload 7, 2) := by decide +kernel
theorem dX8_find_81 : decode cX8_find 81 = .ok (.invokestatic 183, 3) := by decide +kernel
theorem dX8_find_84 : decode cX8_find 84 = .ok (.iaload, 1) := by decide +kernel
theorem dX8_find_85 : decode cX8_find 85 = .ok (.ireturn, 1) := by decide +kernel
theorem dX8_select_0 : decode cX8_select 0 = .ok (.aload_n 0, 1) := by decide +kernel
theorem dX8_select_1 : decode cX8_select 1 = .ok (.aload_n 0, 1) := by decide +kernel
theorem dX8_select_2 : decode cX8_select 2 = .ok (.iload_n 1, 1) := by decide +kernel
theorem dX8_select_3 : decode cX8_select 3 = .ok (.invokevirtual 170, 3) := by decide +kernel
theorem dX8_select_6 : decode cX8_select 6 = .ok (.putfield 122, 3) := by decide +kernel
theorem dX8_select_9 : decode cX8_select 9 = .ok (.aload_n 0, 1) := by decide +kernel
theorem dX8_select_10 : decode cX8_select 10 = .ok (.getfield 122, 3) := by decide +kernel
theorem dX8_select_13 : decode cX8_select 13 = .ok (.ifCond .le 5, 3) := by decide +kernel
theorem dX8_select_16 : decode cX8_select 16 = .ok (.iconst 0, 1) := by decide +kernel
theorem dX8_select_17 : decode cX8_select 17 = .ok (.ireturn, 1) := by decide +kernel
theorem dX8_select_18 : decode cX8_select 18 = .ok (.aload_n 0, 1) := by decide +kernel
theorem dX8_select_19 : decode cX8_select 19 = .ok (.iload_n 1, 1) := by decide +kernel
theorem dX8_select_20 : decode cX8_select 20 = .ok (.iload_n 2, 1) := by decide +kernel
theorem dX8_select_21 : decode cX8_select 21 = .ok (.invokevirtual 151, 3) := by decide +kernel
theorem dX8_select_24 : decode cX8_select 24 = .ok (.istore 6, 2) := by decide +kernel
theorem dX8_select_26 : decode cX8_select 26 = .ok (.aload_n 0, 1) := by decide +kernel
theorem dX8_select_27 : decode cX8_select 27 = .ok (.iload_n 1, 1) := by decide +kernel
theorem dX8_select_28 : decode cX8_select 28 = .ok (.iload 5, 2) := by decide +kernel
theorem dX8_select_30 : decode cX8_select 30 = .ok (.invokevirtual 151, 3) := by decide +kernel
theorem dX8_select_33 : decode cX8_select 33 = .ok (.istore 7, 2) := by decide +kernel
theorem dX8_select_35 : decode cX8_select 35 = .ok (.iload 6, 2) := by decide +kernel
theorem dX8_select_37 : decode cX8_select 37 = .ok (.iconst (-1), 1) := by decide +kernel
theorem dX8_select_38 : decode cX8_select 38 = .ok (.if_icmp .ne 7, 3) := by decide +kernel
theorem dX8_select_41 : decode cX8_select 41 = .ok (.iconst (-1), 1) := by decide +kernel
theorem dX8_select_42 : decode cX8_select 42 = .ok (.goto 13, 3) := by decide +kernel
theorem dX8_select_45 : decode cX8_select 45 = .ok (.aload_n 0, 1) := by decide +kernel
theorem dX8_select_46 : decode cX8_select 46 = .ok (.iload 6, 2) := by decide +kernel
theorem dX8_select_48 : decode cX8_select 48 = .ok (.iconst 1, 1) := by decide +kernel
theorem dX8_select_49 : decode cX8_select 49 = .ok (.iload_n 3, 1) := by decide +kernel
theorem dX8_select_50 : decode cX8_select 50 = .ok (.iload 4, 2) := by decide +kernel
theorem dX8_select_52 : decode cX8_select 52 = .ok (.invokevirtual 155, 3) := by decide +kernel
theorem dX8_select_55 : decode cX8_select 55 = .ok (.istore 8, 2) := by decide +kernel
theorem dX8_select_57 : decode cX8_select 57 = .ok (.iload 8, 2) := by decide +kernel
theorem dX8_select_59 : decode cX8_select 59 = .ok (.iconst (-1), 1) := by decide +kernel
theorem dX8_select_60 : decode cX8_select 60 = .ok (.if_icmp .eq 19, 3) := by decide +kernel
theorem dX8_select_63 : decode cX8_select 63 = .ok (.iload 7, 2) := by decide +kernel
theorem dX8_select_65 : decode cX8_select 65 = .ok (.iconst (-1), 1) := by decide +kernel
theorem dX8_select_66 : decode cX8_select 66 = .ok (.if_icmp .eq 13, 3) := by decide +kernel
theorem dX8_select_69 : decode cX8_select 69 = .ok (.aload_n 0, 1) := by decide +kernel
theorem dX8_select_70 : decode cX8_select 70 = .ok (.getfield 20, 3) := by decide +kernel
theorem dX8_select_73 : decode cX8_select 73 = .ok (.iload 7, 2) := by decide +kernel
theorem dX8_select_75 : decode cX8_select 75 = .ok (.baload, 1) := by decide +kernel
theorem dX8_select_76 : decode cX8_select 76 = .ok (.ifCond .eq 5, 3) := by decide +kernel
theorem dX8_select_79 : decode cX8_select 79 = .ok (.iconst (-1), 1) := by decide +kernel
theorem dX8_select_80 : decode cX8_select 80 = .ok (.ireturn, 1) := by decide +kernel
theorem dX8_select_81 : decode cX8_select 81 = .ok (.aload_n 0, 1) := by decide +kernel
theorem dX8_select_82 : decode cX8_select 82 = .ok (.iload_n 1, 1) := by decide +kernel
theorem dX8_select_83 : decode cX8_select 83 = .ok (.iload 8, 2) := by decide +kernel
theorem dX8_select_85 : decode cX8_select 85 = .ok (.iload 7, 2) := by decide +kernel
theorem dX8_select_87 : decode cX8_select 87 = .ok (.invokevirtual 189, 3) := by decide +kernel
theorem dX8_select_90 : decode cX8_select 90 = .ok (.istore 9, 2) := by decide +kernel
theorem dX8_select_92 : decode cX8_select 92 = .ok (.iload 9, 2) := by decide +kernel
theorem dX8_select_94 : decode cX8_select 94 = .ok (.iconst (-1), 1) := by decide +kernel
theorem dX8_select_95 : decode cX8_select 95 = .ok (.if_icmp .ne 7, 3) := by decide +kernel
theorem dX8_select_98 : decode cX8_select 98 = .ok (.iconst (-1), 1) := by decide +kernel
theorem dX8_select_99 : decode cX8_select 99 = .ok (.goto 13, 3) := by decide +kernel
theorem dX8_select_102 : decode cX8_select 102 = .ok (.aload_n 0, 1) := by decide +kernel
theorem dX8_select_103 : decode cX8_select 103 = .ok (.getfield 17, 3) := by decide +kernel
theorem dX8_select_106 : decode cX8_select 106 = .ok (.iload 9, 2) := by decide +kernel
theorem dX8_select_108 : decode cX8_select 108 = .ok (.invokestatic 183, 3) := by decide +kernel
theorem dX8_select_111 : decode cX8_select 111 = .ok (.iaload, 1) := by decide +kernel
theorem dX8_select_112 : decode cX8_select 112 = .ok (.ireturn, 1) := by decide +kernel
theorem dX8_caller_0 : decode cX8_caller 0 = .ok (.aload_n 0, 1) := by decide +kernel
theorem dX8_caller_1 : decode cX8_caller 1 = .ok (.aload_n 0, 1) := by decide +kernel
theorem dX8_caller_2 : decode cX8_caller 2 = .ok (.iload_n 1, 1) := by decide +kernel
theorem dX8_caller_3 : decode cX8_caller 3 = .ok (.invokevirtual 170, 3) := by decide +kernel
theorem dX8_caller_6 : decode cX8_caller 6 = .ok (.putfield 122, 3) := by decide +kernel
theorem dX8_caller_9 : decode cX8_caller 9 = .ok (.aload_n 0, 1) := by decide +kernel
theorem dX8_caller_10 : decode cX8_caller 10 = .ok (.getfield 122, 3) := by decide +kernel
theorem dX8_caller_13 : decode cX8_caller 13 = .ok (.ifCond .le 5, 3) := by decide +kernel
theorem dX8_caller_16 : decode cX8_caller 16 = .ok (.iconst 0, 1) := by decide +kernel
theorem dX8_caller_17 : decode cX8_caller 17 = .ok (.ireturn, 1) := by decide +kernel
theorem dX8_caller_18 : decode cX8_caller 18 = .ok (.iload_n 2, 1) := by decide +kernel
theorem dX8_caller_19 : decode cX8_caller 19 = .ok (.iconst 0, 1) := by decide +kernel
theorem dX8_caller_20 : decode cX8_caller 20 = .ok (.iconst 4, 1) := by decide +kernel
theorem dX8_caller_21 : decode cX8_caller 21 = .ok (.invokestatic 147, 3) := by decide +kernel
theorem dX8_caller_24 : decode cX8_caller 24 = .ok (.ifCond .eq 36, 3) := by decide +kernel
theorem dX8_caller_27 : decode cX8_caller 27 = .ok (.iload_n 3, 1) := by decide +kernel
theorem dX8_caller_28 : decode cX8_caller 28 = .ok (.iconst (-1), 1) := by decide +kernel
theorem dX8_caller_29 : decode cX8_caller 29 = .ok (.if_icmp .eq 27, 3) := by decide +kernel
theorem dX8_caller_32 : decode cX8_caller 32 = .ok (.aload_n 0, 1) := by decide +kernel
theorem dX8_caller_33 : decode cX8_caller 33 = .ok (.iload_n 1, 1) := by decide +kernel
theorem dX8_caller_34 : decode cX8_caller 34 = .ok (.iload_n 3, 1) := by decide +kernel
theorem dX8_caller_35 : decode cX8_caller 35 = .ok (.invokevirtual 151, 3) := by decide +kernel
theorem dX8_caller_38 : decode cX8_caller 38 = .ok (.iconst (-1), 1) := by decide +kernel
theorem dX8_caller_39 : decode cX8_caller 39 = .ok (.if_icmp .eq 21, 3) := by decide +kernel
theorem dX8_caller_42 : decode cX8_caller 42 = .ok (.aload_n 0, 1) := by decide +kernel
theorem dX8_caller_43 : decode cX8_caller 43 = .ok (.getfield 20, 3) := by decide +kernel
theorem dX8_caller_46 : decode cX8_caller 46 = .ok (.aload_n 0, 1) := by decide +kernel
theorem dX8_caller_47 : decode cX8_caller 47 = .ok (.iload_n 1, 1) := by decide +kernel
theorem dX8_caller_48 : decode cX8_caller 48 = .ok (.iload_n 3, 1) := by decide +kernel
theorem dX8_caller_49 : decode cX8_caller 49 = .ok (.invokevirtual 151, 3) := by decide +kernel
theorem dX8_caller_52 : decode cX8_caller 52 = .ok (.baload, 1) := by decide +kernel
theorem dX8_caller_53 : decode cX8_caller 53 = .ok (.ifCond .ne 7, 3) := by decide +kernel
theorem dX8_caller_56 : decode cX8_caller 56 = .ok (.iconst 1, 1) := by decide +kernel
theorem dX8_caller_57 : decode cX8_caller 57 = .ok (.goto 4, 3) := by decide +kernel
theorem dX8_caller_60 : decode cX8_caller 60 = .ok (.iconst 0, 1) := by decide +kernel
theorem dX8_caller_61 : decode cX8_caller 61 = .ok (.istore 4, 2) := by decide +kernel
theorem dX8_caller_63 : decode cX8_caller 63 = .ok (.aload_n 0, 1) := by decide +kernel
theorem dX8_caller_64 : decode cX8_caller 64 = .ok (.iload 4, 2) := by decide +kernel
theorem dX8_caller_66 : decode cX8_caller 66 = .ok (.ifCond .ne 7, 3) := by decide +kernel
theorem dX8_caller_69 : decode cX8_caller 69 = .ok (.iconst 3, 1) := by decide +kernel
theorem dX8_caller_70 : decode cX8_caller 70 = .ok (.goto 17, 3) := by decide +kernel
theorem dX8_caller_73 : decode cX8_caller 73 = .ok (.aload_n 0, 1) := by decide +kernel
theorem dX8_caller_74 : decode cX8_caller 74 = .ok (.getfield 129, 3) := by decide +kernel
theorem dX8_caller_77 : decode cX8_caller 77 = .ok (.bipush 12, 2) := by decide +kernel
theorem dX8_caller_79 : decode cX8_caller 79 = .ok (.if_icmp .ne 7, 3) := by decide +kernel
theorem dX8_caller_82 : decode cX8_caller 82 = .ok (.iconst 4, 1) := by decide +kernel
theorem dX8_caller_83 : decode cX8_caller 83 = .ok (.goto 4, 3) := by decide +kernel
theorem dX8_caller_86 : decode cX8_caller 86 = .ok (.iconst 0, 1) := by decide +kernel
theorem dX8_caller_87 : decode cX8_caller 87 = .ok (.putfield 122, 3) := by decide +kernel
theorem dX8_caller_90 : decode cX8_caller 90 = .ok (.aload_n 0, 1) := by decide +kernel
theorem dX8_caller_91 : decode cX8_caller 91 = .ok (.getfield 122, 3) := by decide +kernel
theorem dX8_caller_94 : decode cX8_caller 94 = .ok (.ifCond .le 5, 3) := by decide +kernel
theorem dX8_caller_97 : decode cX8_caller 97 = .ok (.iconst 0, 1) := by decide +kernel
theorem dX8_caller_98 : decode cX8_caller 98 = .ok (.ireturn, 1) := by decide +kernel
theorem dX8_caller_99 : decode cX8_caller 99 = .ok (.aload_n 0, 1) := by decide +kernel
theorem dX8_caller_100 : decode cX8_caller 100 = .ok (.getfield 68, 3) := by decide +kernel
theorem dX8_caller_103 : decode cX8_caller 103 = .ok (.aload_n 0, 1) := by decide +kernel
theorem dX8_caller_104 : decode cX8_caller 104 = .ok (.getfield 129, 3) := by decide +kernel
theorem dX8_caller_107 : decode cX8_caller 107 = .ok (.iload_n 1, 1) := by decide +kernel
theorem dX8_caller_108 : decode cX8_caller 108 = .ok (.iastore, 1) := by decide +kernel
theorem dX8_caller_109 : decode cX8_caller 109 = .ok (.aload_n 0, 1) := by decide +kernel
theorem dX8_caller_110 : decode cX8_caller 110 = .ok (.getfield 71, 3) := by decide +kernel
theorem dX8_caller_113 : decode cX8_caller 113 = .ok (.aload_n 0, 1) := by decide +kernel
theorem dX8_caller_114 : decode cX8_caller 114 = .ok (.getfield 129, 3) := by decide +kernel
theorem dX8_caller_117 : decode cX8_caller 117 = .ok (.iload_n 2, 1) := by decide +kernel
theorem dX8_caller_118 : decode cX8_caller 118 = .ok (.iastore, 1) := by decide +kernel
theorem dX8_caller_119 : decode cX8_caller 119 = .ok (.aload_n 0, 1) := by decide +kernel
theorem dX8_caller_120 : decode cX8_caller 120 = .ok (.getfield 74, 3) := by decide +kernel
theorem dX8_caller_123 : decode cX8_caller 123 = .ok (.aload_n 0, 1) := by decide +kernel
theorem dX8_caller_124 : decode cX8_caller 124 = .ok (.getfield 129, 3) := by decide +kernel
theorem dX8_caller_127 : decode cX8_caller 127 = .ok (.iload_n 3, 1) := by decide +kernel
theorem dX8_caller_128 : decode cX8_caller 128 = .ok (.iastore, 1) := by decide +kernel
theorem dX8_caller_129 : decode cX8_caller 129 = .ok (.aload_n 0, 1) := by decide +kernel
theorem dX8_caller_130 : decode cX8_caller 130 = .ok (.getfield 77, 3) := by decide +kernel
theorem dX8_caller_133 : decode cX8_caller 133 = .ok (.aload_n 0, 1) := by decide +kernel
theorem dX8_caller_134 : decode cX8_caller 134 = .ok (.getfield 129, 3) := by decide +kernel
theorem dX8_caller_137 : decode cX8_caller 137 = .ok (.iconst 0, 1) := by decide +kernel
theorem dX8_caller_138 : decode cX8_caller 138 = .ok (.iastore, 1) := by decide +kernel
theorem dX8_caller_139 : decode cX8_caller 139 = .ok (.aload_n 0, 1) := by decide +kernel
theorem dX8_caller_140 : decode cX8_caller 140 = .ok (.dup, 1) := by decide +kernel
theorem dX8_caller_141 : decode cX8_caller 141 = .ok (.getfield 129, 3) := by decide +kernel
theorem dX8_caller_144 : decode cX8_caller 144 = .ok (.iconst 1, 1) := by decide +kernel
theorem dX8_caller_145 : decode cX8_caller 145 = .ok (.iadd, 1) := by decide +kernel
theorem dX8_caller_146 : decode cX8_caller 146 = .ok (.putfield 129, 3) := by decide +kernel
theorem dX8_caller_149 : decode cX8_caller 149 = .ok (.aload_n 0, 1) := by decide +kernel
theorem dX8_caller_150 : decode cX8_caller 150 = .ok (.getfield 129, 3) := by decide +kernel
theorem dX8_caller_153 : decode cX8_caller 153 = .ok (.iconst 1, 1) := by decide +kernel
theorem dX8_caller_154 : decode cX8_caller 154 = .ok (.isub, 1) := by decide +kernel
theorem dX8_caller_155 : decode cX8_caller 155 = .ok (.ireturn, 1) := by decide +kernel
theorem dX8_mayReach_0 : decode cX8_mayReach 0 = .ok (.iload_n 3, 1) := by decide +kernel
theorem dX8_mayReach_1 : decode cX8_mayReach 1 = .ok (.invokestatic 183, 3) := by decide +kernel
theorem dX8_mayReach_4 : decode cX8_mayReach 4 = .ok (.istore 4, 2) := by decide +kernel
theorem dX8_mayReach_6 : decode cX8_mayReach 6 = .ok (.aload_n 0, 1) := by decide +kernel
theorem dX8_mayReach_7 : decode cX8_mayReach 7 = .ok (.getfield 53, 3) := by decide +kernel
theorem dX8_mayReach_10 : decode cX8_mayReach 10 = .ok (.iload_n 3, 1) := by decide +kernel
theorem dX8_mayReach_11 : decode cX8_mayReach 11 = .ok (.iaload, 1) := by decide +kernel
theorem dX8_mayReach_12 : decode cX8_mayReach 12 = .ok (.iconst 3, 1) := by decide +kernel
theorem dX8_mayReach_13 : decode cX8_mayReach 13 = .ok (.if_icmp .ne 5, 3) := by decide +kernel
theorem dX8_mayReach_16 : decode cX8_mayReach 16 = .ok (.iconst 1, 1) := by decide +kernel
theorem dX8_mayReach_17 : decode cX8_mayReach 17 = .ok (.ireturn, 1) := by decide +kernel
theorem dX8_mayReach_18 : decode cX8_mayReach 18 = .ok (.aload_n 0, 1) := by decide +kernel
theorem dX8_mayReach_19 : decode cX8_mayReach 19 = .ok (.getfield 53, 3) := by decide +kernel
theorem dX8_mayReach_22 : decode cX8_mayReach 22 = .ok (.iload_n 3, 1) := by decide +kernel
theorem dX8_mayReach_23 : decode cX8_mayReach 23 = .ok (.iaload, 1) := by decide +kernel
theorem dX8_mayReach_24 : decode cX8_mayReach 24 = .ok (.ifCond .ne 5, 3) := by decide +kernel
theorem dX8_mayReach_27 : decode cX8_mayReach 27 = .ok (.iconst 0, 1) := by decide +kernel
theorem dX8_mayReach_28 : decode cX8_mayReach 28 = .ok (.ireturn, 1) := by decide +kernel
theorem dX8_mayReach_29 : decode cX8_mayReach 29 = .ok (.aload_n 0, 1) := by decide +kernel
theorem dX8_mayReach_30 : decode cX8_mayReach 30 = .ok (.getfield 26, 3) := by decide +kernel
theorem dX8_mayReach_33 : decode cX8_mayReach 33 = .ok (.iload 4, 2) := by decide +kernel
theorem dX8_mayReach_35 : decode cX8_mayReach 35 = .ok (.iaload, 1) := by decide +kernel
theorem dX8_mayReach_36 : decode cX8_mayReach 36 = .ok (.aload_n 0, 1) := by decide +kernel
theorem dX8_mayReach_37 : decode cX8_mayReach 37 = .ok (.getfield 71, 3) := by decide +kernel
theorem dX8_mayReach_40 : decode cX8_mayReach 40 = .ok (.iload_n 1, 1) := by decide +kernel
theorem dX8_mayReach_41 : decode cX8_mayReach 41 = .ok (.iaload, 1) := by decide +kernel
theorem dX8_mayReach_42 : decode cX8_mayReach 42 = .ok (.if_icmp .ne 5, 3) := by decide +kernel
theorem dX8_mayReach_45 : decode cX8_mayReach 45 = .ok (.iconst 1, 1) := by decide +kernel
theorem dX8_mayReach_46 : decode cX8_mayReach 46 = .ok (.ireturn, 1) := by decide +kernel
theorem dX8_mayReach_47 : decode cX8_mayReach 47 = .ok (.aload_n 0, 1) := by decide +kernel
theorem dX8_mayReach_48 : decode cX8_mayReach 48 = .ok (.getfield 53, 3) := by decide +kernel
theorem dX8_mayReach_51 : decode cX8_mayReach 51 = .ok (.iload_n 3, 1) := by decide +kernel
theorem dX8_mayReach_52 : decode cX8_mayReach 52 = .ok (.iaload, 1) := by decide +kernel
theorem dX8_mayReach_53 : decode cX8_mayReach 53 = .ok (.iconst 1, 1) := by decide +kernel
theorem dX8_mayReach_54 : decode cX8_mayReach 54 = .ok (.if_icmp .eq 28, 3) := by decide +kernel
theorem dX8_mayReach_57 : decode cX8_mayReach 57 = .ok (.aload_n 0, 1) := by decide +kernel
theorem dX8_mayReach_58 : decode cX8_mayReach 58 = .ok (.getfield 74, 3) := by decide +kernel
theorem dX8_mayReach_61 : decode cX8_mayReach 61 = .ok (.iload_n 1, 1) := by decide +kernel
theorem dX8_mayReach_62 : decode cX8_mayReach 62 = .ok (.iaload, 1) := by decide +kernel
theorem dX8_mayReach_63 : decode cX8_mayReach 63 = .ok (.iconst (-1), 1) := by decide +kernel
theorem dX8_mayReach_64 : decode cX8_mayReach 64 = .ok (.if_icmp .eq 18, 3) := by decide +kernel
theorem dX8_mayReach_67 : decode cX8_mayReach 67 = .ok (.aload_n 0, 1) := by decide +kernel
theorem dX8_mayReach_68 : decode cX8_mayReach 68 = .ok (.iload_n 2, 1) := by decide +kernel
theorem dX8_mayReach_69 : decode cX8_mayReach 69 = .ok (.aload_n 0, 1) := by decide +kernel
theorem dX8_mayReach_70 : decode cX8_mayReach 70 = .ok (.getfield 74, 3) := by decide +kernel
theorem dX8_mayReach_73 : decode cX8_mayReach 73 = .ok (.iload_n 1, 1) := by decide +kernel
theorem dX8_mayReach_74 : decode cX8_mayReach 74 = .ok (.iaload, 1) := by decide +kernel
theorem dX8_mayReach_75 : decode cX8_mayReach 75 = .ok (.invokevirtual 151, 3) := by decide +kernel
theorem dX8_mayReach_78 : decode cX8_mayReach 78 = .ok (.iconst (-1), 1) := by decide +kernel
theorem dX8_mayReach_79 : decode cX8_mayReach 79 = .ok (.if_icmp .ne 5, 3) := by decide +kernel
theorem dX8_mayReach_82 : decode cX8_mayReach 82 = .ok (.iconst 0, 1) := by decide +kernel
theorem dX8_mayReach_83 : decode cX8_mayReach 83 = .ok (.ireturn, 1) := by decide +kernel
theorem dX8_mayReach_84 : decode cX8_mayReach 84 = .ok (.aload_n 0, 1) := by decide +kernel
theorem dX8_mayReach_85 : decode cX8_mayReach 85 = .ok (.getfield 74, 3) := by decide +kernel
theorem dX8_mayReach_88 : decode cX8_mayReach 88 = .ok (.iload_n 1, 1) := by decide +kernel
theorem dX8_mayReach_89 : decode cX8_mayReach 89 = .ok (.iaload, 1) := by decide +kernel
theorem dX8_mayReach_90 : decode cX8_mayReach 90 = .ok (.aload_n 0, 1) := by decide +kernel
theorem dX8_mayReach_91 : decode cX8_mayReach 91 = .ok (.getfield 17, 3) := by decide +kernel
theorem dX8_mayReach_94 : decode cX8_mayReach 94 = .ok (.iload 4, 2) := by decide +kernel
theorem dX8_mayReach_96 : decode cX8_mayReach 96 = .ok (.iaload, 1) := by decide +kernel
theorem dX8_mayReach_97 : decode cX8_mayReach 97 = .ok (.if_icmp .eq 24, 3) := by decide +kernel
theorem dX8_mayReach_100 : decode cX8_mayReach 100 = .ok (.aload_n 0, 1) := by decide +kernel
theorem dX8_mayReach_101 : decode cX8_mayReach 101 = .ok (.iload_n 2, 1) := by decide +kernel
theorem dX8_mayReach_102 : decode cX8_mayReach 102 = .ok (.aload_n 0, 1) := by decide +kernel
theorem dX8_mayReach_103 : decode cX8_mayReach 103 = .ok (.getfield 17, 3) := by decide +kernel
theorem dX8_mayReach_106 : decode cX8_mayReach 106 = .ok (.iload 4, 2) := by decide +kernel
theorem dX8_mayReach_108 : decode cX8_mayReach 108 = .ok (.iaload, 1) := by decide +kernel
theorem dX8_mayReach_109 : decode cX8_mayReach 109 = .ok (.aload_n 0, 1) := by decide +kernel
theorem dX8_mayReach_110 : decode cX8_mayReach 110 = .ok (.getfield 74, 3) := by decide +kernel
theorem dX8_mayReach_113 : decode cX8_mayReach 113 = .ok (.iload_n 1, 1) := by decide +kernel
theorem dX8_mayReach_114 : decode cX8_mayReach 114 = .ok (.iaload, 1) := by decide +kernel
theorem dX8_mayReach_115 : decode cX8_mayReach 115 = .ok (.invokevirtual 167, 3) := by decide +kernel
theorem dX8_mayReach_118 : decode cX8_mayReach 118 = .ok (.ifCond .eq 7, 3) := by decide +kernel
theorem dX8_mayReach_121 : decode cX8_mayReach 121 = .ok (.iconst 1, 1) := by decide +kernel
theorem dX8_mayReach_122 : decode cX8_mayReach 122 = .ok (.goto 4, 3) := by decide +kernel
theorem dX8_mayReach_125 : decode cX8_mayReach 125 = .ok (.iconst 0, 1) := by decide +kernel
theorem dX8_mayReach_126 : decode cX8_mayReach 126 = .ok (.ireturn, 1) := by decide +kernel
theorem dX8_constantOf_0 : decode cX8_constantOf 0 = .ok (.iload_n 2, 1) := by decide +kernel
theorem dX8_constantOf_1 : decode cX8_constantOf 1 = .ok (.iconst 1, 1) := by decide +kernel
theorem dX8_constantOf_2 : decode cX8_constantOf 2 = .ok (.if_icmp .eq 5, 3) := by decide +kernel
theorem dX8_constantOf_5 : decode cX8_constantOf 5 = .ok (.iconst (-1), 1) := by decide +kernel
theorem dX8_constantOf_6 : decode cX8_constantOf 6 = .ok (.ireturn, 1) := by decide +kernel
theorem dX8_constantOf_7 : decode cX8_constantOf 7 = .ok (.aload_n 0, 1) := by decide +kernel
theorem dX8_constantOf_8 : decode cX8_constantOf 8 = .ok (.aload_n 0, 1) := by decide +kernel
theorem dX8_constantOf_9 : decode cX8_constantOf 9 = .ok (.getfield 68, 3) := by decide +kernel
theorem dX8_constantOf_12 : decode cX8_constantOf 12 = .ok (.iload_n 1, 1) := by decide +kernel
theorem dX8_constantOf_13 : decode cX8_constantOf 13 = .ok (.iaload, 1) := by decide +kernel
theorem dX8_constantOf_14 : decode cX8_constantOf 14 = .ok (.iload_n 3, 1) := by decide +kernel
theorem dX8_constantOf_15 : decode cX8_constantOf 15 = .ok (.invokevirtual 151, 3) := by decide +kernel
theorem dX8_constantOf_18 : decode cX8_constantOf 18 = .ok (.istore 6, 2) := by decide +kernel
theorem dX8_constantOf_20 : decode cX8_constantOf 20 = .ok (.iload 6, 2) := by decide +kernel
theorem dX8_constantOf_22 : decode cX8_constantOf 22 = .ok (.iconst (-1), 1) := by decide +kernel
theorem dX8_constantOf_23 : decode cX8_constantOf 23 = .ok (.if_icmp .ne 7, 3) := by decide +kernel
theorem dX8_constantOf_26 : decode cX8_constantOf 26 = .ok (.iconst (-1), 1) := by decide +kernel
theorem dX8_constantOf_27 : decode cX8_constantOf 27 = .ok (.goto 19, 3) := by decide +kernel
theorem dX8_constantOf_30 : decode cX8_constantOf 30 = .ok (.aload_n 0, 1) := by decide +kernel
theorem dX8_constantOf_31 : decode cX8_constantOf 31 = .ok (.aload_n 0, 1) := by decide +kernel
theorem dX8_constantOf_32 : decode cX8_constantOf 32 = .ok (.getfield 68, 3) := by decide +kernel
theorem dX8_constantOf_35 : decode cX8_constantOf 35 = .ok (.iload_n 1, 1) := by decide +kernel
theorem dX8_constantOf_36 : decode cX8_constantOf 36 = .ok (.iaload, 1) := by decide +kernel
theorem dX8_constantOf_37 : decode cX8_constantOf 37 = .ok (.iload 6, 2) := by decide +kernel
theorem dX8_constantOf_39 : decode cX8_constantOf 39 = .ok (.iload 4, 2) := by decide +kernel
theorem dX8_constantOf_41 : decode cX8_constantOf 41 = .ok (.iload 5, 2) := by decide +kernel
theorem dX8_constantOf_43 : decode cX8_constantOf 43 = .ok (.invokevirtual 173, 3) := by decide +kernel
theorem dX8_constantOf_46 : decode cX8_constantOf 46 = .ok (.istore 7, 2) := by decide +kernel
theorem dX8_constantOf_48 : decode cX8_constantOf 48 = .ok (.iload 7, 2) := by decide +kernel
theorem dX8_constantOf_50 : decode cX8_constantOf 50 = .ok (.iconst (-1), 1) := by decide +kernel
theorem dX8_constantOf_51 : decode cX8_constantOf 51 = .ok (.if_icmp .eq 18, 3) := by decide +kernel
theorem dX8_constantOf_54 : decode cX8_constantOf 54 = .ok (.aload_n 0, 1) := by decide +kernel
theorem dX8_constantOf_55 : decode cX8_constantOf 55 = .ok (.getfield 62, 3) := by decide +kernel
theorem dX8_constantOf_58 : decode cX8_constantOf 58 = .ok (.iload 7, 2) := by decide +kernel
theorem dX8_constantOf_60 : decode cX8_constantOf 60 = .ok (.baload, 1) := by decide +kernel
theorem dX8_constantOf_61 : decode cX8_constantOf 61 = .ok (.ifCond .eq 8, 3) := by decide +kernel
theorem dX8_constantOf_64 : decode cX8_constantOf 64 = .ok (.iload 7, 2) := by decide +kernel
theorem dX8_constantOf_66 : decode cX8_constantOf 66 = .ok (.goto 4, 3) := by decide +kernel
theorem dX8_constantOf_69 : decode cX8_constantOf 69 = .ok (.iconst (-1), 1) := by decide +kernel
theorem dX8_constantOf_70 : decode cX8_constantOf 70 = .ok (.ireturn, 1) := by decide +kernel
theorem dX8_met_0 : decode cX8_met 0 = .ok (.aload_n 0, 1) := by decide +kernel
theorem dX8_met_1 : decode cX8_met 1 = .ok (.iconst (-1), 1) := by decide +kernel
theorem dX8_met_2 : decode cX8_met 2 = .ok (.putfield 192, 3) := by decide +kernel
theorem dX8_met_5 : decode cX8_met 5 = .ok (.aload_n 0, 1) := by decide +kernel
theorem dX8_met_6 : decode cX8_met 6 = .ok (.iload_n 2, 1) := by decide +kernel
theorem dX8_met_7 : decode cX8_met 7 = .ok (.iload 4, 2) := by decide +kernel
theorem dX8_met_9 : decode cX8_met 9 = .ok (.invokevirtual 151, 3) := by decide +kernel
theorem dX8_met_12 : decode cX8_met 12 = .ok (.istore 8, 2) := by decide +kernel
theorem dX8_met_14 : decode cX8_met 14 = .ok (.iload_n 2, 1) := by decide +kernel
theorem dX8_met_15 : decode cX8_met 15 = .ok (.aload_n 0, 1) := by decide +kernel
theorem dX8_met_16 : decode cX8_met 16 = .ok (.getfield 68, 3) := by decide +kernel
theorem dX8_met_19 : decode cX8_met 19 = .ok (.iload_n 1, 1) := by decide +kernel
theorem dX8_met_20 : decode cX8_met 20 = .ok (.iaload, 1) := by decide +kernel
theorem dX8_met_21 : decode cX8_met 21 = .ok (.if_icmp .eq 18, 3) := by decide +kernel
theorem dX8_met_24 : decode cX8_met 24 = .ok (.aload_n 0, 1) := by decide +kernel
theorem dX8_met_25 : decode cX8_met 25 = .ok (.iload_n 1, 1) := by decide +kernel
theorem dX8_met_26 : decode cX8_met 26 = .ok (.iload_n 3, 1) := by decide +kernel
theorem dX8_met_27 : decode cX8_met 27 = .ok (.iload 4, 2) := by decide +kernel
theorem dX8_met_29 : decode cX8_met 29 = .ok (.iload 5, 2) := by decide +kernel
theorem dX8_met_31 : decode cX8_met 31 = .ok (.iload 6, 2) := by decide +kernel
theorem dX8_met_33 : decode cX8_met 33 = .ok (.invokevirtual 195, 3) := by decide +kernel
theorem dX8_met_36 : decode cX8_met 36 = .ok (.goto 4, 3) := by decide +kernel
theorem dX8_met_39 : decode cX8_met 39 = .ok (.iconst (-1), 1) := by decide +kernel
theorem dX8_met_40 : decode cX8_met 40 = .ok (.istore 9, 2) := by decide +kernel
theorem dX8_met_42 : decode cX8_met 42 = .ok (.iload 9, 2) := by decide +kernel
theorem dX8_met_44 : decode cX8_met 44 = .ok (.iconst (-1), 1) := by decide +kernel
theorem dX8_met_45 : decode cX8_met 45 = .ok (.if_icmp .eq 66, 3) := by decide +kernel
theorem dX8_met_48 : decode cX8_met 48 = .ok (.iload 8, 2) := by decide +kernel
theorem dX8_met_50 : decode cX8_met 50 = .ok (.iconst (-1), 1) := by decide +kernel
theorem dX8_met_51 : decode cX8_met 51 = .ok (.if_icmp .ne 7, 3) := by decide +kernel
theorem dX8_met_54 : decode cX8_met 54 = .ok (.iconst (-1), 1) := by decide +kernel
theorem dX8_met_55 : decode cX8_met 55 = .ok (.goto 14, 3) := by decide +kernel
theorem dX8_met_58 : decode cX8_met 58 = .ok (.aload_n 0, 1) := by decide +kernel
theorem dX8_met_59 : decode cX8_met 59 = .ok (.iload_n 2, 1) := by decide +kernel
theorem dX8_met_60 : decode cX8_met 60 = .ok (.iload 8, 2) := by decide +kernel
theorem dX8_met_62 : decode cX8_met 62 = .ok (.iload 5, 2) := by decide +kernel
theorem dX8_met_64 : decode cX8_met 64 = .ok (.iload 6, 2) := by decide +kernel
theorem dX8_met_66 : decode cX8_met 66 = .ok (.invokevirtual 173, 3) := by decide +kernel
theorem dX8_met_69 : decode cX8_met 69 = .ok (.istore 10, 2) := by decide +kernel
theorem dX8_met_71 : decode cX8_met 71 = .ok (.iload 10, 2) := by decide +kernel
theorem dX8_met_73 : decode cX8_met 73 = .ok (.iconst (-1), 1) := by decide +kernel
theorem dX8_met_74 : decode cX8_met 74 = .ok (.if_icmp .eq 34, 3) := by decide +kernel
theorem dX8_met_77 : decode cX8_met 77 = .ok (.aload_n 0, 1) := by decide +kernel
theorem dX8_met_78 : decode cX8_met 78 = .ok (.getfield 62, 3) := by decide +kernel
theorem dX8_met_81 : decode cX8_met 81 = .ok (.iload 10, 2) := by decide +kernel
theorem dX8_met_83 : decode cX8_met 83 = .ok (.baload, 1) := by decide +kernel
theorem dX8_met_84 : decode cX8_met 84 = .ok (.ifCond .eq 24, 3) := by decide +kernel
theorem dX8_met_87 : decode cX8_met 87 = .ok (.aload_n 0, 1) := by decide +kernel
theorem dX8_met_88 : decode cX8_met 88 = .ok (.getfield 59, 3) := by decide +kernel
theorem dX8_met_91 : decode cX8_met 91 = .ok (.iload 10, 2) := by decide +kernel
theorem dX8_met_93 : decode cX8_met 93 = .ok (.iaload, 1) := by decide +kernel
theorem dX8_met_94 : decode cX8_met 94 = .ok (.aload_n 0, 1) := by decide +kernel
theorem dX8_met_95 : decode cX8_met 95 = .ok (.getfield 59, 3) := by decide +kernel
theorem dX8_met_98 : decode cX8_met 98 = .ok (.iload 9, 2) := by decide +kernel
theorem dX8_met_100 : decode cX8_met 100 = .ok (.iaload, 1) := by decide +kernel
theorem dX8_met_101 : decode cX8_met 101 = .ok (.if_icmp .ne 7, 3) := by decide +kernel
theorem dX8_met_104 : decode cX8_met 104 = .ok (.iconst 0, 1) := by decide +kernel
theorem dX8_met_105 : decode cX8_met 105 = .ok (.goto 5, 3) := by decide +kernel
theorem dX8_met_108 : decode cX8_met 108 = .ok (.bipush 9, 2) := by decide +kernel
theorem dX8_met_110 : decode cX8_met 110 = .ok (.ireturn, 1) := by decide +kernel
theorem dX8_met_111 : decode cX8_met 111 = .ok (.iload_n 3, 1) := by decide +kernel
theorem dX8_met_112 : decode cX8_met 112 = .ok (.iconst 2, 1) := by decide +kernel
theorem dX8_met_113 : decode cX8_met 113 = .ok (.if_icmp .eq 8, 3) := by decide +kernel
theorem dX8_met_116 : decode cX8_met 116 = .ok (.iload_n 3, 1) := by decide +kernel
theorem dX8_met_117 : decode cX8_met 117 = .ok (.iconst 4, 1) := by decide +kernel
theorem dX8_met_118 : decode cX8_met 118 = .ok (.if_icmp .ne 7, 3) := by decide +kernel
theorem dX8_met_121 : decode cX8_met 121 = .ok (.iconst 1, 1) := by decide +kernel
theorem dX8_met_122 : decode cX8_met 122 = .ok (.goto 4, 3) := by decide +kernel
theorem dX8_met_125 : decode cX8_met 125 = .ok (.iconst 0, 1) := by decide +kernel
theorem dX8_met_126 : decode cX8_met 126 = .ok (.istore 10, 2) := by decide +kernel
theorem dX8_met_128 : decode cX8_met 128 = .ok (.iload 10, 2) := by decide +kernel
theorem dX8_met_130 : decode cX8_met 130 = .ok (.ifCond .eq 13, 3) := by decide +kernel
theorem dX8_met_133 : decode cX8_met 133 = .ok (.aload_n 0, 1) := by decide +kernel
theorem dX8_met_134 : decode cX8_met 134 = .ok (.iload_n 2, 1) := by decide +kernel
theorem dX8_met_135 : decode cX8_met 135 = .ok (.iload 7, 2) := by decide +kernel
theorem dX8_met_137 : decode cX8_met 137 = .ok (.invokevirtual 151, 3) := by decide +kernel
theorem dX8_met_140 : decode cX8_met 140 = .ok (.goto 4, 3) := by decide +kernel
theorem dX8_met_143 : decode cX8_met 143 = .ok (.iconst (-1), 1) := by decide +kernel
theorem dX8_met_144 : decode cX8_met 144 = .ok (.istore 11, 2) := by decide +kernel
theorem dX8_met_146 : decode cX8_met 146 = .ok (.iload 8, 2) := by decide +kernel
theorem dX8_met_148 : decode cX8_met 148 = .ok (.iconst (-1), 1) := by decide +kernel
theorem dX8_met_149 : decode cX8_met 149 = .ok (.if_icmp .eq 14, 3) := by decide +kernel
theorem dX8_met_152 : decode cX8_met 152 = .ok (.iload 10, 2) := by decide +kernel
theorem dX8_met_154 : decode cX8_met 154 = .ok (.ifCond .eq 11, 3) := by decide +kernel
theorem dX8_met_157 : decode cX8_met 157 = .ok (.iload 11, 2) := by decide +kernel
theorem dX8_met_159 : decode cX8_met 159 = .ok (.iconst (-1), 1) := by decide +kernel
theorem dX8_met_160 : decode cX8_met 160 = .ok (.if_icmp .ne 5, 3) := by decide +kernel
theorem dX8_met_163 : decode cX8_met 163 = .ok (.iconst 1, 1) := by decide +kernel
theorem dX8_met_164 : decode cX8_met 164 = .ok (.ireturn, 1) := by decide +kernel
theorem dX8_met_165 : decode cX8_met 165 = .ok (.aload_n 0, 1) := by decide +kernel
theorem dX8_met_166 : decode cX8_met 166 = .ok (.getfield 29, 3) := by decide +kernel
theorem dX8_met_169 : decode cX8_met 169 = .ok (.iload 8, 2) := by decide +kernel
theorem dX8_met_171 : decode cX8_met 171 = .ok (.baload, 1) := by decide +kernel
theorem dX8_met_172 : decode cX8_met 172 = .ok (.ifCond .ne 21, 3) := by decide +kernel
theorem dX8_met_175 : decode cX8_met 175 = .ok (.aload_n 0, 1) := by decide +kernel
theorem dX8_met_176 : decode cX8_met 176 = .ok (.getfield 26, 3) := by decide +kernel
theorem dX8_met_179 : decode cX8_met 179 = .ok (.iload 8, 2) := by decide +kernel
theorem dX8_met_181 : decode cX8_met 181 = .ok (.iaload, 1) := by decide +kernel
theorem dX8_met_182 : decode cX8_met 182 = .ok (.aload_n 0, 1) := by decide +kernel
theorem dX8_met_183 : decode cX8_met 183 = .ok (.getfield 71, 3) := by decide +kernel
theorem dX8_met_186 : decode cX8_met 186 = .ok (.iload_n 1, 1) := by decide +kernel
theorem dX8_met_187 : decode cX8_met 187 = .ok (.iaload, 1) := by decide +kernel
theorem dX8_met_188 : decode cX8_met 188 = .ok (.if_icmp .eq 5, 3) := by decide +kernel
theorem dX8_met_191 : decode cX8_met 191 = .ok (.iconst 3, 1) := by decide +kernel
theorem dX8_met_192 : decode cX8_met 192 = .ok (.ireturn, 1) := by decide +kernel
theorem dX8_met_193 : decode cX8_met 193 = .ok (.iload_n 3, 1) := by decide +kernel
theorem dX8_met_194 : decode cX8_met 194 = .ok (.iconst 2, 1) := by decide +kernel
theorem dX8_met_195 : decode cX8_met 195 = .ok (.if_icmp .ne 13, 3) := by decide +kernel
theorem dX8_met_198 : decode cX8_met 198 = .ok (.aload_n 0, 1) := by decide +kernel
theorem dX8_met_199 : decode cX8_met 199 = .ok (.getfield 20, 3) := by decide +kernel
theorem dX8_met_202 : decode cX8_met 202 = .ok (.iload 8, 2) := by decide +kernel
theorem dX8_met_204 : decode cX8_met 204 = .ok (.baload, 1) := by decide +kernel
theorem dX8_met_205 : decode cX8_met 205 = .ok (.ifCond .ne 18, 3) := by decide +kernel
theorem dX8_met_208 : decode cX8_met 208 = .ok (.iload_n 3, 1) := by decide +kernel
theorem dX8_met_209 : decode cX8_met 209 = .ok (.iconst 4, 1) := by decide +kernel
theorem dX8_met_210 : decode cX8_met 210 = .ok (.if_icmp .ne 16, 3) := by decide +kernel
theorem dX8_met_213 : decode cX8_met 213 = .ok (.aload_n 0, 1) := by decide +kernel
theorem dX8_met_214 : decode cX8_met 214 = .ok (.getfield 20, 3) := by decide +kernel
theorem dX8_met_217 : decode cX8_met 217 = .ok (.iload 8, 2) := by decide +kernel
theorem dX8_met_219 : decode cX8_met 219 = .ok (.baload, 1) := by decide +kernel
theorem dX8_met_220 : decode cX8_met 220 = .ok (.ifCond .ne 6, 3) := by decide +kernel
theorem dX8_met_223 : decode cX8_met 223 = .ok (.bipush 6, 2) := by decide +kernel
theorem dX8_met_225 : decode cX8_met 225 = .ok (.ireturn, 1) := by decide +kernel
theorem dX8_met_226 : decode cX8_met 226 = .ok (.iload_n 3, 1) := by decide +kernel
theorem dX8_met_227 : decode cX8_met 227 = .ok (.iconst 5, 1) := by decide +kernel
theorem dX8_met_228 : decode cX8_met 228 = .ok (.if_icmp .ne 19, 3) := by decide +kernel
theorem dX8_met_231 : decode cX8_met 231 = .ok (.aload_n 0, 1) := by decide +kernel
theorem dX8_met_232 : decode cX8_met 232 = .ok (.getfield 23, 3) := by decide +kernel
theorem dX8_met_235 : decode cX8_met 235 = .ok (.iload 8, 2) := by decide +kernel
theorem dX8_met_237 : decode cX8_met 237 = .ok (.baload, 1) := by decide +kernel
theorem dX8_met_238 : decode cX8_met 238 = .ok (.ifCond .eq 7, 3) := by decide +kernel
theorem dX8_met_241 : decode cX8_met 241 = .ok (.iconst 5, 1) := by decide +kernel
theorem dX8_met_242 : decode cX8_met 242 = .ok (.goto 4, 3) := by decide +kernel
theorem dX8_met_245 : decode cX8_met 245 = .ok (.iconst 0, 1) := by decide +kernel
theorem dX8_met_246 : decode cX8_met 246 = .ok (.ireturn, 1) := by decide +kernel
theorem dX8_met_247 : decode cX8_met 247 = .ok (.iload_n 3, 1) := by decide +kernel
theorem dX8_met_248 : decode cX8_met 248 = .ok (.iconst 2, 1) := by decide +kernel
theorem dX8_met_249 : decode cX8_met 249 = .ok (.if_icmp .ge 17, 3) := by decide +kernel
theorem dX8_met_252 : decode cX8_met 252 = .ok (.aload_n 0, 1) := by decide +kernel
theorem dX8_met_253 : decode cX8_met 253 = .ok (.iload_n 2, 1) := by decide +kernel
theorem dX8_met_254 : decode cX8_met 254 = .ok (.iload 8, 2) := by decide +kernel
theorem dX8_met_256 : decode cX8_met 256 = .ok (.iload 5, 2) := by decide +kernel
theorem dX8_met_258 : decode cX8_met 258 = .ok (.iload 6, 2) := by decide +kernel
theorem dX8_met_260 : decode cX8_met 260 = .ok (.invokevirtual 173, 3) := by decide +kernel
theorem dX8_met_263 : decode cX8_met 263 = .ok (.goto 14, 3) := by decide +kernel
theorem dX8_met_266 : decode cX8_met 266 = .ok (.aload_n 0, 1) := by decide +kernel
theorem dX8_met_267 : decode cX8_met 267 = .ok (.iload_n 2, 1) := by decide +kernel
theorem dX8_met_268 : decode cX8_met 268 = .ok (.iload 8, 2) := by decide +kernel
theorem dX8_met_270 : decode cX8_met 270 = .ok (.iload 5, 2) := by decide +kernel
theorem dX8_met_272 : decode cX8_met 272 = .ok (.iload 6, 2) := by decide +kernel
theorem dX8_met_274 : decode cX8_met 274 = .ok (.invokevirtual 186, 3) := by decide +kernel
theorem dX8_met_277 : decode cX8_met 277 = .ok (.istore 12, 2) := by decide +kernel
theorem dX8_met_279 : decode cX8_met 279 = .ok (.iload 12, 2) := by decide +kernel
theorem dX8_met_281 : decode cX8_met 281 = .ok (.iconst (-1), 1) := by decide +kernel
theorem dX8_met_282 : decode cX8_met 282 = .ok (.if_icmp .ne 5, 3) := by decide +kernel
theorem dX8_met_285 : decode cX8_met 285 = .ok (.iconst 2, 1) := by decide +kernel
theorem dX8_met_286 : decode cX8_met 286 = .ok (.ireturn, 1) := by decide +kernel
theorem dX8_met_287 : decode cX8_met 287 = .ok (.aload_n 0, 1) := by decide +kernel
theorem dX8_met_288 : decode cX8_met 288 = .ok (.iload_n 1, 1) := by decide +kernel
theorem dX8_met_289 : decode cX8_met 289 = .ok (.iload_n 2, 1) := by decide +kernel
theorem dX8_met_290 : decode cX8_met 290 = .ok (.iload 12, 2) := by decide +kernel
theorem dX8_met_292 : decode cX8_met 292 = .ok (.invokevirtual 199, 3) := by decide +kernel
theorem dX8_met_295 : decode cX8_met 295 = .ok (.ifCond .ne 5, 3) := by decide +kernel
theorem dX8_met_298 : decode cX8_met 298 = .ok (.iconst 3, 1) := by decide +kernel
theorem dX8_met_299 : decode cX8_met 299 = .ok (.ireturn, 1) := by decide +kernel
theorem dX8_met_300 : decode cX8_met 300 = .ok (.aload_n 0, 1) := by decide +kernel
theorem dX8_met_301 : decode cX8_met 301 = .ok (.getfield 56, 3) := by decide +kernel
theorem dX8_met_304 : decode cX8_met 304 = .ok (.iload 12, 2) := by decide +kernel
theorem dX8_met_306 : decode cX8_met 306 = .ok (.baload, 1) := by decide +kernel
theorem dX8_met_307 : decode cX8_met 307 = .ok (.iload_n 3, 1) := by decide +kernel
theorem dX8_met_308 : decode cX8_met 308 = .ok (.iconst 1, 1) := by decide +kernel
theorem dX8_met_309 : decode cX8_met 309 = .ok (.if_icmp .eq 8, 3) := by decide +kernel
theorem dX8_met_312 : decode cX8_met 312 = .ok (.iload_n 3, 1) := by decide +kernel
theorem dX8_met_313 : decode cX8_met 313 = .ok (.iconst 3, 1) := by decide +kernel
theorem dX8_met_314 : decode cX8_met 314 = .ok (.if_icmp .ne 7, 3) := by decide +kernel
theorem dX8_met_317 : decode cX8_met 317 = .ok (.iconst 1, 1) := by decide +kernel
theorem dX8_met_318 : decode cX8_met 318 = .ok (.goto 4, 3) := by decide +kernel
theorem dX8_met_321 : decode cX8_met 321 = .ok (.iconst 0, 1) := by decide +kernel
theorem dX8_met_322 : decode cX8_met 322 = .ok (.if_icmp .eq 5, 3) := by decide +kernel
theorem dX8_met_325 : decode cX8_met 325 = .ok (.iconst 4, 1) := by decide +kernel
theorem dX8_met_326 : decode cX8_met 326 = .ok (.ireturn, 1) := by decide +kernel
theorem dX8_met_327 : decode cX8_met 327 = .ok (.iload 10, 2) := by decide +kernel
theorem dX8_met_329 : decode cX8_met 329 = .ok (.ifCond .ne 28, 3) := by decide +kernel
theorem dX8_met_332 : decode cX8_met 332 = .ok (.aload_n 0, 1) := by decide +kernel
theorem dX8_met_333 : decode cX8_met 333 = .ok (.iload_n 3, 1) := by decide +kernel
theorem dX8_met_334 : decode cX8_met 334 = .ok (.iconst 3, 1) := by decide +kernel
theorem dX8_met_335 : decode cX8_met 335 = .ok (.if_icmp .ne 16, 3) := by decide +kernel
theorem dX8_met_338 : decode cX8_met 338 = .ok (.aload_n 0, 1) := by decide +kernel
theorem dX8_met_339 : decode cX8_met 339 = .ok (.getfield 17, 3) := by decide +kernel
theorem dX8_met_342 : decode cX8_met 342 = .ok (.iload 12, 2) := by decide +kernel
theorem dX8_met_344 : decode cX8_met 344 = .ok (.invokestatic 183, 3) := by decide +kernel
theorem dX8_met_347 : decode cX8_met 347 = .ok (.iaload, 1) := by decide +kernel
theorem dX8_met_348 : decode cX8_met 348 = .ok (.goto 4, 3) := by decide +kernel
theorem dX8_met_351 : decode cX8_met 351 = .ok (.iconst (-1), 1) := by decide +kernel
theorem dX8_met_352 : decode cX8_met 352 = .ok (.putfield 192, 3) := by decide +kernel
theorem dX8_met_355 : decode cX8_met 355 = .ok (.iconst 0, 1) := by decide +kernel
theorem dX8_met_356 : decode cX8_met 356 = .ok (.ireturn, 1) := by decide +kernel
theorem dX8_met_357 : decode cX8_met 357 = .ok (.aload_n 0, 1) := by decide +kernel
theorem dX8_met_358 : decode cX8_met 358 = .ok (.getfield 20, 3) := by decide +kernel
theorem dX8_met_361 : decode cX8_met 361 = .ok (.iload 11, 2) := by decide +kernel
theorem dX8_met_363 : decode cX8_met 363 = .ok (.baload, 1) := by decide +kernel
theorem dX8_met_364 : decode cX8_met 364 = .ok (.ifCond .ne 32, 3) := by decide +kernel
theorem dX8_met_367 : decode cX8_met 367 = .ok (.aload_n 0, 1) := by decide +kernel
theorem dX8_met_368 : decode cX8_met 368 = .ok (.getfield 23, 3) := by decide +kernel
theorem dX8_met_371 : decode cX8_met 371 = .ok (.iload 11, 2) := by decide +kernel
theorem dX8_met_373 : decode cX8_met 373 = .ok (.baload, 1) := by decide +kernel
theorem dX8_met_374 : decode cX8_met 374 = .ok (.ifCond .ne 22, 3) := by decide +kernel
theorem dX8_met_377 : decode cX8_met 377 = .ok (.iload 11, 2) := by decide +kernel
theorem dX8_met_379 : decode cX8_met 379 = .ok (.iload 8, 2) := by decide +kernel
theorem dX8_met_381 : decode cX8_met 381 = .ok (.if_icmp .eq 18, 3) := by decide +kernel
theorem dX8_met_384 : decode cX8_met 384 = .ok (.aload_n 0, 1) := by decide +kernel
theorem dX8_met_385 : decode cX8_met 385 = .ok (.iload_n 2, 1) := by decide +kernel
theorem dX8_met_386 : decode cX8_met 386 = .ok (.iload 4, 2) := by decide +kernel
theorem dX8_met_388 : decode cX8_met 388 = .ok (.iload 7, 2) := by decide +kernel
theorem dX8_met_390 : decode cX8_met 390 = .ok (.invokevirtual 167, 3) := by decide +kernel
theorem dX8_met_393 : decode cX8_met 393 = .ok (.ifCond .ne 6, 3) := by decide +kernel
theorem dX8_met_396 : decode cX8_met 396 = .ok (.bipush 6, 2) := by decide +kernel
theorem dX8_met_398 : decode cX8_met 398 = .ok (.ireturn, 1) := by decide +kernel
theorem dX8_met_399 : decode cX8_met 399 = .ok (.aload_n 0, 1) := by decide +kernel
theorem dX8_met_400 : decode cX8_met 400 = .ok (.iload_n 2, 1) := by decide +kernel
theorem dX8_met_401 : decode cX8_met 401 = .ok (.iload 12, 2) := by decide +kernel
theorem dX8_met_403 : decode cX8_met 403 = .ok (.iload 11, 2) := by decide +kernel
theorem dX8_met_405 : decode cX8_met 405 = .ok (.invokevirtual 189, 3) := by decide +kernel
theorem dX8_met_408 : decode cX8_met 408 = .ok (.istore 13, 2) := by decide +kernel
theorem dX8_met_410 : decode cX8_met 410 = .ok (.iload 13, 2) := by decide +kernel
theorem dX8_met_412 : decode cX8_met 412 = .ok (.iconst (-1), 1) := by decide +kernel
theorem dX8_met_413 : decode cX8_met 413 = .ok (.if_icmp .eq 13, 3) := by decide +kernel
theorem dX8_met_416 : decode cX8_met 416 = .ok (.aload_n 0, 1) := by decide +kernel
theorem dX8_met_417 : decode cX8_met 417 = .ok (.getfield 59, 3) := by decide +kernel
theorem dX8_met_420 : decode cX8_met 420 = .ok (.iload 13, 2) := by decide +kernel
theorem dX8_met_422 : decode cX8_met 422 = .ok (.iaload, 1) := by decide +kernel
theorem dX8_met_423 : decode cX8_met 423 = .ok (.ifCond .ge 5, 3) := by decide +kernel
theorem dX8_met_426 : decode cX8_met 426 = .ok (.iconst 5, 1) := by decide +kernel
theorem dX8_met_427 : decode cX8_met 427 = .ok (.ireturn, 1) := by decide +kernel
theorem dX8_met_428 : decode cX8_met 428 = .ok (.iload_n 3, 1) := by decide +kernel
theorem dX8_met_429 : decode cX8_met 429 = .ok (.iconst 4, 1) := by decide +kernel
theorem dX8_met_430 : decode cX8_met 430 = .ok (.if_icmp .ne 16, 3) := by decide +kernel
theorem dX8_met_433 : decode cX8_met 433 = .ok (.aload_n 0, 1) := by decide +kernel
theorem dX8_met_434 : decode cX8_met 434 = .ok (.getfield 53, 3) := by decide +kernel
theorem dX8_met_437 : decode cX8_met 437 = .ok (.iload 13, 2) := by decide +kernel
theorem dX8_met_439 : decode cX8_met 439 = .ok (.iaload, 1) := by decide +kernel
theorem dX8_met_440 : decode cX8_met 440 = .ok (.iconst 3, 1) := by decide +kernel
theorem dX8_met_441 : decode cX8_met 441 = .ok (.if_icmp .eq 5, 3) := by decide +kernel
theorem dX8_met_444 : decode cX8_met 444 = .ok (.iconst 3, 1) := by decide +kernel
theorem dX8_met_445 : decode cX8_met 445 = .ok (.ireturn, 1) := by decide +kernel
theorem dX8_met_446 : decode cX8_met 446 = .ok (.aload_n 0, 1) := by decide +kernel
theorem dX8_met_447 : decode cX8_met 447 = .ok (.aload_n 0, 1) := by decide +kernel
theorem dX8_met_448 : decode cX8_met 448 = .ok (.getfield 17, 3) := by decide +kernel
theorem dX8_met_451 : decode cX8_met 451 = .ok (.iload 13, 2) := by decide +kernel
theorem dX8_met_453 : decode cX8_met 453 = .ok (.invokestatic 183, 3) := by decide +kernel
theorem dX8_met_456 : decode cX8_met 456 = .ok (.iaload, 1) := by decide +kernel
theorem dX8_met_457 : decode cX8_met 457 = .ok (.putfield 192, 3) := by decide +kernel
theorem dX8_met_460 : decode cX8_met 460 = .ok (.iload_n 2, 1) := by decide +kernel
theorem dX8_met_461 : decode cX8_met 461 = .ok (.aload_n 0, 1) := by decide +kernel
theorem dX8_met_462 : decode cX8_met 462 = .ok (.getfield 68, 3) := by decide +kernel
theorem dX8_met_465 : decode cX8_met 465 = .ok (.iload_n 1, 1) := by decide +kernel
theorem dX8_met_466 : decode cX8_met 466 = .ok (.iaload, 1) := by decide +kernel
theorem dX8_met_467 : decode cX8_met 467 = .ok (.if_icmp .eq 28, 3) := by decide +kernel
theorem dX8_met_470 : decode cX8_met 470 = .ok (.aload_n 0, 1) := by decide +kernel
theorem dX8_met_471 : decode cX8_met 471 = .ok (.getfield 192, 3) := by decide +kernel
theorem dX8_met_474 : decode cX8_met 474 = .ok (.aload_n 0, 1) := by decide +kernel
theorem dX8_met_475 : decode cX8_met 475 = .ok (.iload_n 1, 1) := by decide +kernel
theorem dX8_met_476 : decode cX8_met 476 = .ok (.iload 4, 2) := by decide +kernel
theorem dX8_met_478 : decode cX8_met 478 = .ok (.iload 5, 2) := by decide +kernel
theorem dX8_met_480 : decode cX8_met 480 = .ok (.iload 6, 2) := by decide +kernel
theorem dX8_met_482 : decode cX8_met 482 = .ok (.iload 7, 2) := by decide +kernel
theorem dX8_met_484 : decode cX8_met 484 = .ok (.invokevirtual 202, 3) := by decide +kernel
theorem dX8_met_487 : decode cX8_met 487 = .ok (.if_icmp .eq 8, 3) := by decide +kernel
theorem dX8_met_490 : decode cX8_met 490 = .ok (.bipush 8, 2) := by decide +kernel
theorem dX8_met_492 : decode cX8_met 492 = .ok (.goto 4, 3) := by decide +kernel
theorem dX8_met_495 : decode cX8_met 495 = .ok (.iconst 0, 1) := by decide +kernel
theorem dX8_met_496 : decode cX8_met 496 = .ok (.ireturn, 1) := by decide +kernel
theorem dX8_ownRun_0 : decode cX8_ownRun 0 = .ok (.aload_n 0, 1) := by decide +kernel
theorem dX8_ownRun_1 : decode cX8_ownRun 1 = .ok (.getfield 68, 3) := by decide +kernel
theorem dX8_ownRun_4 : decode cX8_ownRun 4 = .ok (.iload_n 1, 1) := by decide +kernel
theorem dX8_ownRun_5 : decode cX8_ownRun 5 = .ok (.iaload, 1) := by decide +kernel
theorem dX8_ownRun_6 : decode cX8_ownRun 6 = .ok (.istore 6, 2) := by decide +kernel
theorem dX8_ownRun_8 : decode cX8_ownRun 8 = .ok (.aload_n 0, 1) := by decide +kernel
theorem dX8_ownRun_9 : decode cX8_ownRun 9 = .ok (.iload 6, 2) := by decide +kernel
theorem dX8_ownRun_11 : decode cX8_ownRun 11 = .ok (.iload_n 2, 1) := by decide +kernel
theorem dX8_ownRun_12 : decode cX8_ownRun 12 = .ok (.invokevirtual 151, 3) := by decide +kernel
theorem dX8_ownRun_15 : decode cX8_ownRun 15 = .ok (.istore 7, 2) := by decide +kernel
theorem dX8_ownRun_17 : decode cX8_ownRun 17 = .ok (.aload_n 0, 1) := by decide +kernel
theorem dX8_ownRun_18 : decode cX8_ownRun 18 = .ok (.iload 6, 2) := by decide +kernel
theorem dX8_ownRun_20 : decode cX8_ownRun 20 = .ok (.iload 5, 2) := by decide +kernel
theorem dX8_ownRun_22 : decode cX8_ownRun 22 = .ok (.invokevirtual 151, 3) := by decide +kernel
theorem dX8_ownRun_25 : decode cX8_ownRun 25 = .ok (.istore 8, 2) := by decide +kernel
theorem dX8_ownRun_27 : decode cX8_ownRun 27 = .ok (.iload 7, 2) := by decide +kernel
theorem dX8_ownRun_29 : decode cX8_ownRun 29 = .ok (.iconst (-1), 1) := by decide +kernel
theorem dX8_ownRun_30 : decode cX8_ownRun 30 = .ok (.if_icmp .eq 19, 3) := by decide +kernel
theorem dX8_ownRun_33 : decode cX8_ownRun 33 = .ok (.iload 8, 2) := by decide +kernel
theorem dX8_ownRun_35 : decode cX8_ownRun 35 = .ok (.iconst (-1), 1) := by decide +kernel
theorem dX8_ownRun_36 : decode cX8_ownRun 36 = .ok (.if_icmp .eq 13, 3) := by decide +kernel
theorem dX8_ownRun_39 : decode cX8_ownRun 39 = .ok (.aload_n 0, 1) := by decide +kernel
theorem dX8_ownRun_40 : decode cX8_ownRun 40 = .ok (.getfield 20, 3) := by decide +kernel
theorem dX8_ownRun_43 : decode cX8_ownRun 43 = .ok (.iload 8, 2) := by decide +kernel
theorem dX8_ownRun_45 : decode cX8_ownRun 45 = .ok (.baload, 1) := by decide +kernel
theorem dX8_ownRun_46 : decode cX8_ownRun 46 = .ok (.ifCond .eq 7, 3) := by decide +kernel
theorem dX8_ownRun_49 : decode cX8_ownRun 49 = .ok (.iconst (-1), 1) := by decide +kernel
theorem dX8_ownRun_50 : decode cX8_ownRun 50 = .ok (.goto 14, 3) := by decide +kernel
theorem dX8_ownRun_53 : decode cX8_ownRun 53 = .ok (.aload_n 0, 1) := by decide +kernel
theorem dX8_ownRun_54 : decode cX8_ownRun 54 = .ok (.iload 6, 2) := by decide +kernel
theorem dX8_ownRun_56 : decode cX8_ownRun 56 = .ok (.iload 7, 2) := by decide +kernel
theorem dX8_ownRun_58 : decode cX8_ownRun 58 = .ok (.iload_n 3, 1) := by decide +kernel
theorem dX8_ownRun_59 : decode cX8_ownRun 59 = .ok (.iload 4, 2) := by decide +kernel
theorem dX8_ownRun_61 : decode cX8_ownRun 61 = .ok (.invokevirtual 186, 3) := by decide +kernel
theorem dX8_ownRun_64 : decode cX8_ownRun 64 = .ok (.istore 9, 2) := by decide +kernel
theorem dX8_ownRun_66 : decode cX8_ownRun 66 = .ok (.iload 9, 2) := by decide +kernel
theorem dX8_ownRun_68 : decode cX8_ownRun 68 = .ok (.iconst (-1), 1) := by decide +kernel
theorem dX8_ownRun_69 : decode cX8_ownRun 69 = .ok (.if_icmp .ne 7, 3) := by decide +kernel
theorem dX8_ownRun_72 : decode cX8_ownRun 72 = .ok (.iconst (-1), 1) := by decide +kernel
theorem dX8_ownRun_73 : decode cX8_ownRun 73 = .ok (.goto 13, 3) := by decide +kernel
theorem dX8_ownRun_76 : decode cX8_ownRun 76 = .ok (.aload_n 0, 1) := by decide +kernel
theorem dX8_ownRun_77 : decode cX8_ownRun 77 = .ok (.iload 6, 2) := by decide +kernel
theorem dX8_ownRun_79 : decode cX8_ownRun 79 = .ok (.iload 9, 2) := by decide +kernel
theorem dX8_ownRun_81 : decode cX8_ownRun 81 = .ok (.iload 8, 2) := by decide +kernel
theorem dX8_ownRun_83 : decode cX8_ownRun 83 = .ok (.invokevirtual 189, 3) := by decide +kernel
theorem dX8_ownRun_86 : decode cX8_ownRun 86 = .ok (.istore 10, 2) := by decide +kernel
theorem dX8_ownRun_88 : decode cX8_ownRun 88 = .ok (.iload 10, 2) := by decide +kernel
theorem dX8_ownRun_90 : decode cX8_ownRun 90 = .ok (.iconst (-1), 1) := by decide +kernel
theorem dX8_ownRun_91 : decode cX8_ownRun 91 = .ok (.if_icmp .ne 7, 3) := by decide +kernel
theorem dX8_ownRun_94 : decode cX8_ownRun 94 = .ok (.iconst (-1), 1) := by decide +kernel
theorem dX8_ownRun_95 : decode cX8_ownRun 95 = .ok (.goto 13, 3) := by decide +kernel
theorem dX8_ownRun_98 : decode cX8_ownRun 98 = .ok (.aload_n 0, 1) := by decide +kernel
theorem dX8_ownRun_99 : decode cX8_ownRun 99 = .ok (.getfield 17, 3) := by decide +kernel
theorem dX8_ownRun_102 : decode cX8_ownRun 102 = .ok (.iload 10, 2) := by decide +kernel
theorem dX8_ownRun_104 : decode cX8_ownRun 104 = .ok (.invokestatic 183, 3) := by decide +kernel
theorem dX8_ownRun_107 : decode cX8_ownRun 107 = .ok (.iaload, 1) := by decide +kernel
theorem dX8_ownRun_108 : decode cX8_ownRun 108 = .ok (.ireturn, 1) := by decide +kernel
theorem dX8_use_0 : decode cX8_use 0 = .ok (.aload_n 0, 1) := by decide +kernel
theorem dX8_use_1 : decode cX8_use 1 = .ok (.aload_n 0, 1) := by decide +kernel
theorem dX8_use_2 : decode cX8_use 2 = .ok (.iload_n 1, 1) := by decide +kernel
theorem dX8_use_3 : decode cX8_use 3 = .ok (.invokevirtual 205, 3) := by decide +kernel
theorem dX8_use_6 : decode cX8_use 6 = .ok (.ifCond .ne 7, 3) := by decide +kernel
theorem dX8_use_9 : decode cX8_use 9 = .ok (.iconst 1, 1) := by decide +kernel
theorem dX8_use_10 : decode cX8_use 10 = .ok (.goto 32, 3) := by decide +kernel
theorem dX8_use_13 : decode cX8_use 13 = .ok (.iload_n 2, 1) := by decide +kernel
theorem dX8_use_14 : decode cX8_use 14 = .ok (.iconst 0, 1) := by decide +kernel
theorem dX8_use_15 : decode cX8_use 15 = .ok (.iconst 5, 1) := by decide +kernel
theorem dX8_use_16 : decode cX8_use 16 = .ok (.invokestatic 147, 3) := by decide +kernel
theorem dX8_use_19 : decode cX8_use 19 = .ok (.ifCond .ne 7, 3) := by decide +kernel
theorem dX8_use_22 : decode cX8_use 22 = .ok (.iconst 2, 1) := by decide +kernel
theorem dX8_use_23 : decode cX8_use 23 = .ok (.goto 19, 3) := by decide +kernel
theorem dX8_use_26 : decode cX8_use 26 = .ok (.aload_n 0, 1) := by decide +kernel
theorem dX8_use_27 : decode cX8_use 27 = .ok (.getfield 77, 3) := by decide +kernel
theorem dX8_use_30 : decode cX8_use 30 = .ok (.iload_n 1, 1) := by decide +kernel
theorem dX8_use_31 : decode cX8_use 31 = .ok (.iaload, 1) := by decide +kernel
theorem dX8_use_32 : decode cX8_use 32 = .ok (.bipush 20, 2) := by decide +kernel
theorem dX8_use_34 : decode cX8_use 34 = .ok (.if_icmp .ne 7, 3) := by decide +kernel
theorem dX8_use_37 : decode cX8_use 37 = .ok (.iconst 3, 1) := by decide +kernel
theorem dX8_use_38 : decode cX8_use 38 = .ok (.goto 4, 3) := by decide +kernel
theorem dX8_use_41 : decode cX8_use 41 = .ok (.iconst 0, 1) := by decide +kernel
theorem dX8_use_42 : decode cX8_use 42 = .ok (.putfield 122, 3) := by decide +kernel
theorem dX8_use_45 : decode cX8_use 45 = .ok (.aload_n 0, 1) := by decide +kernel
theorem dX8_use_46 : decode cX8_use 46 = .ok (.getfield 122, 3) := by decide +kernel
theorem dX8_use_49 : decode cX8_use 49 = .ok (.ifCond .le 5, 3) := by decide +kernel
theorem dX8_use_52 : decode cX8_use 52 = .ok (.iconst 0, 1) := by decide +kernel
theorem dX8_use_53 : decode cX8_use 53 = .ok (.ireturn, 1) := by decide +kernel
theorem dX8_use_54 : decode cX8_use 54 = .ok (.aload_n 0, 1) := by decide +kernel
theorem dX8_use_55 : decode cX8_use 55 = .ok (.iload_n 1, 1) := by decide +kernel
theorem dX8_use_56 : decode cX8_use 56 = .ok (.aload_n 0, 1) := by decide +kernel
theorem dX8_use_57 : decode cX8_use 57 = .ok (.getfield 68, 3) := by decide +kernel
theorem dX8_use_60 : decode cX8_use 60 = .ok (.iload_n 1, 1) := by decide +kernel
theorem dX8_use_61 : decode cX8_use 61 = .ok (.iaload, 1) := by decide +kernel
theorem dX8_use_62 : decode cX8_use 62 = .ok (.iload_n 2, 1) := by decide +kernel
theorem dX8_use_63 : decode cX8_use 63 = .ok (.iload_n 3, 1) := by decide +kernel
theorem dX8_use_64 : decode cX8_use 64 = .ok (.iload 4, 2) := by decide +kernel
theorem dX8_use_66 : decode cX8_use 66 = .ok (.iload 5, 2) := by decide +kernel
theorem dX8_use_68 : decode cX8_use 68 = .ok (.iload 6, 2) := by decide +kernel
theorem dX8_use_70 : decode cX8_use 70 = .ok (.invokevirtual 208, 3) := by decide +kernel
theorem dX8_use_73 : decode cX8_use 73 = .ok (.ifCond .eq 5, 3) := by decide +kernel
theorem dX8_use_76 : decode cX8_use 76 = .ok (.iconst (-1), 1) := by decide +kernel
theorem dX8_use_77 : decode cX8_use 77 = .ok (.ireturn, 1) := by decide +kernel
theorem dX8_use_78 : decode cX8_use 78 = .ok (.bipush 20, 2) := by decide +kernel
theorem dX8_use_80 : decode cX8_use 80 = .ok (.iload_n 1, 1) := by decide +kernel
theorem dX8_use_81 : decode cX8_use 81 = .ok (.imul, 1) := by decide +kernel
theorem dX8_use_82 : decode cX8_use 82 = .ok (.aload_n 0, 1) := by decide +kernel
theorem dX8_use_83 : decode cX8_use 83 = .ok (.getfield 77, 3) := by decide +kernel
theorem dX8_use_86 : decode cX8_use 86 = .ok (.iload_n 1, 1) := by decide +kernel
theorem dX8_use_87 : decode cX8_use 87 = .ok (.iaload, 1) := by decide +kernel
theorem dX8_use_88 : decode cX8_use 88 = .ok (.iadd, 1) := by decide +kernel
theorem dX8_use_89 : decode cX8_use 89 = .ok (.istore 7, 2) := by decide +kernel
theorem dX8_use_91 : decode cX8_use 91 = .ok (.aload_n 0, 1) := by decide +kernel
theorem dX8_use_92 : decode cX8_use 92 = .ok (.getfield 77, 3) := by decide +kernel
theorem dX8_use_95 : decode cX8_use 95 = .ok (.iload_n 1, 1) := by decide +kernel
theorem dX8_use_96 : decode cX8_use 96 = .ok (.dup2, 1) := by decide +kernel
theorem dX8_use_97 : decode cX8_use 97 = .ok (.iaload, 1) := by decide +kernel
theorem dX8_use_98 : decode cX8_use 98 = .ok (.iconst 1, 1) := by decide +kernel
theorem dX8_use_99 : decode cX8_use 99 = .ok (.iadd, 1) := by decide +kernel
theorem dX8_use_100 : decode cX8_use 100 = .ok (.iastore, 1) := by decide +kernel
theorem dX8_use_101 : decode cX8_use 101 = .ok (.aload_n 0, 1) := by decide +kernel
theorem dX8_use_102 : decode cX8_use 102 = .ok (.getfield 80, 3) := by decide +kernel
theorem dX8_use_105 : decode cX8_use 105 = .ok (.iload 7, 2) := by decide +kernel
theorem dX8_use_107 : decode cX8_use 107 = .ok (.iload_n 2, 1) := by decide +kernel
theorem dX8_use_108 : decode cX8_use 108 = .ok (.iastore, 1) := by decide +kernel
theorem dX8_use_109 : decode cX8_use 109 = .ok (.aload_n 0, 1) := by decide +kernel
theorem dX8_use_110 : decode cX8_use 110 = .ok (.getfield 83, 3) := by decide +kernel
theorem dX8_use_113 : decode cX8_use 113 = .ok (.iload 7, 2) := by decide +kernel
theorem dX8_use_115 : decode cX8_use 115 = .ok (.iload_n 3, 1) := by decide +kernel
theorem dX8_use_116 : decode cX8_use 116 = .ok (.iastore, 1) := by decide +kernel
theorem dX8_use_117 : decode cX8_use 117 = .ok (.aload_n 0, 1) := by decide +kernel
theorem dX8_use_118 : decode cX8_use 118 = .ok (.getfield 86, 3) := by decide +kernel
theorem dX8_use_121 : decode cX8_use 121 = .ok (.iload 7, 2) := by decide +kernel
theorem dX8_use_123 : decode cX8_use 123 = .ok (.iload 4, 2) := by decide +kernel
theorem dX8_use_125 : decode cX8_use 125 = .ok (.iastore, 1) := by decide +kernel
theorem dX8_use_126 : decode cX8_use 126 = .ok (.aload_n 0, 1) := by decide +kernel
theorem dX8_use_127 : decode cX8_use 127 = .ok (.getfield 89, 3) := by decide +kernel
theorem dX8_use_130 : decode cX8_use 130 = .ok (.iload 7, 2) := by decide +kernel
theorem dX8_use_132 : decode cX8_use 132 = .ok (.iload 5, 2) := by decide +kernel
theorem dX8_use_134 : decode cX8_use 134 = .ok (.iastore, 1) := by decide +kernel
theorem dX8_use_135 : decode cX8_use 135 = .ok (.aload_n 0, 1) := by decide +kernel
theorem dX8_use_136 : decode cX8_use 136 = .ok (.getfield 92, 3) := by decide +kernel
theorem dX8_use_139 : decode cX8_use 139 = .ok (.iload 7, 2) := by decide +kernel
theorem dX8_use_141 : decode cX8_use 141 = .ok (.iload 6, 2) := by decide +kernel
theorem dX8_use_143 : decode cX8_use 143 = .ok (.iastore, 1) := by decide +kernel
theorem dX8_use_144 : decode cX8_use 144 = .ok (.aload_n 0, 1) := by decide +kernel
theorem dX8_use_145 : decode cX8_use 145 = .ok (.getfield 77, 3) := by decide +kernel
theorem dX8_use_148 : decode cX8_use 148 = .ok (.iload_n 1, 1) := by decide +kernel
theorem dX8_use_149 : decode cX8_use 149 = .ok (.iaload, 1) := by decide +kernel
theorem dX8_use_150 : decode cX8_use 150 = .ok (.iconst 1, 1) := by decide +kernel
theorem dX8_use_151 : decode cX8_use 151 = .ok (.isub, 1) := by decide +kernel
theorem dX8_use_152 : decode cX8_use 152 = .ok (.ireturn, 1) := by decide +kernel
theorem dX8_meetsUse_0 : decode cX8_meetsUse 0 = .ok (.bipush 20, 2) := by decide +kernel
theorem dX8_meetsUse_2 : decode cX8_meetsUse 2 = .ok (.iload_n 1, 1) := by decide +kernel
theorem dX8_meetsUse_3 : decode cX8_meetsUse 3 = .ok (.imul, 1) := by decide +kernel
theorem dX8_meetsUse_4 : decode cX8_meetsUse 4 = .ok (.iload_n 3, 1) := by decide +kernel
theorem dX8_meetsUse_5 : decode cX8_meetsUse 5 = .ok (.iadd, 1) := by decide +kernel
theorem dX8_meetsUse_6 : decode cX8_meetsUse 6 = .ok (.istore 4, 2) := by decide +kernel
theorem dX8_meetsUse_8 : decode cX8_meetsUse 8 = .ok (.aload_n 0, 1) := by decide +kernel
theorem dX8_meetsUse_9 : decode cX8_meetsUse 9 = .ok (.iload_n 1, 1) := by decide +kernel
theorem dX8_meetsUse_10 : decode cX8_meetsUse 10 = .ok (.iload_n 2, 1) := by decide +kernel
theorem dX8_meetsUse_11 : decode cX8_meetsUse 11 = .ok (.aload_n 0, 1) := by decide +kernel
theorem dX8_meetsUse_12 : decode cX8_meetsUse 12 = .ok (.getfield 80, 3) := by decide +kernel
theorem dX8_meetsUse_15 : decode cX8_meetsUse 15 = .ok (.iload 4, 2) := by decide +kernel
theorem dX8_meetsUse_17 : decode cX8_meetsUse 17 = .ok (.iaload, 1) := by decide +kernel
theorem dX8_meetsUse_18 : decode cX8_meetsUse 18 = .ok (.aload_n 0, 1) := by decide +kernel
theorem dX8_meetsUse_19 : decode cX8_meetsUse 19 = .ok (.getfield 83, 3) := by decide +kernel
theorem dX8_meetsUse_22 : decode cX8_meetsUse 22 = .ok (.iload 4, 2) := by decide +kernel
theorem dX8_meetsUse_24 : decode cX8_meetsUse 24 = .ok (.iaload, 1) := by decide +kernel
theorem dX8_meetsUse_25 : decode cX8_meetsUse 25 = .ok (.aload_n 0, 1) := by decide +kernel
theorem dX8_meetsUse_26 : decode cX8_meetsUse 26 = .ok (.getfield 86, 3) := by decide +kernel
theorem dX8_meetsUse_29 : decode cX8_meetsUse 29 = .ok (.iload 4, 2) := by decide +kernel
theorem dX8_meetsUse_31 : decode cX8_meetsUse 31 = .ok (.iaload, 1) := by decide +kernel
theorem dX8_meetsUse_32 : decode cX8_meetsUse 32 = .ok (.aload_n 0, 1) := by decide +kernel
theorem dX8_meetsUse_33 : decode cX8_meetsUse 33 = .ok (.getfield 89, 3) := by decide +kernel
theorem dX8_meetsUse_36 : decode cX8_meetsUse 36 = .ok (.iload 4, 2) := by decide +kernel
theorem dX8_meetsUse_38 : decode cX8_meetsUse 38 = .ok (.iaload, 1) := by decide +kernel
theorem dX8_meetsUse_39 : decode cX8_meetsUse 39 = .ok (.aload_n 0, 1) := by decide +kernel
theorem dX8_meetsUse_40 : decode cX8_meetsUse 40 = .ok (.getfield 92, 3) := by decide +kernel
theorem dX8_meetsUse_43 : decode cX8_meetsUse 43 = .ok (.iload 4, 2) := by decide +kernel
theorem dX8_meetsUse_45 : decode cX8_meetsUse 45 = .ok (.iaload, 1) := by decide +kernel
theorem dX8_meetsUse_46 : decode cX8_meetsUse 46 = .ok (.invokevirtual 208, 3) := by decide +kernel
theorem dX8_meetsUse_49 : decode cX8_meetsUse 49 = .ok (.ireturn, 1) := by decide +kernel
theorem dX8_useFault_0 : decode cX8_useFault 0 = .ok (.aload_n 0, 1) := by decide +kernel
theorem dX8_useFault_1 : decode cX8_useFault 1 = .ok (.iload_n 1, 1) := by decide +kernel
theorem dX8_useFault_2 : decode cX8_useFault 2 = .ok (.invokevirtual 205, 3) := by decide +kernel
theorem dX8_useFault_5 : decode cX8_useFault 5 = .ok (.ifCond .eq 25, 3) := by decide +kernel
theorem dX8_useFault_8 : decode cX8_useFault 8 = .ok (.aload_n 0, 1) := by decide +kernel
theorem dX8_useFault_9 : decode cX8_useFault 9 = .ok (.iload_n 2, 1) := by decide +kernel
theorem dX8_useFault_10 : decode cX8_useFault 10 = .ok (.invokevirtual 132, 3) := by decide +kernel
theorem dX8_useFault_13 : decode cX8_useFault 13 = .ok (.ifCond .eq 17, 3) := by decide +kernel
theorem dX8_useFault_16 : decode cX8_useFault 16 = .ok (.iload_n 3, 1) := by decide +kernel
theorem dX8_useFault_17 : decode cX8_useFault 17 = .ok (.ifCond .lt 13, 3) := by decide +kernel
theorem dX8_useFault_20 : decode cX8_useFault 20 = .ok (.iload_n 3, 1) := by decide +kernel
theorem dX8_useFault_21 : decode cX8_useFault 21 = .ok (.aload_n 0, 1) := by decide +kernel
theorem dX8_useFault_22 : decode cX8_useFault 22 = .ok (.getfield 77, 3) := by decide +kernel
theorem dX8_useFault_25 : decode cX8_useFault 25 = .ok (.iload_n 1, 1) := by decide +kernel
theorem dX8_useFault_26 : decode cX8_useFault 26 = .ok (.iaload, 1) := by decide +kernel
theorem dX8_useFault_27 : decode cX8_useFault 27 = .ok (.if_icmp .lt 7, 3) := by decide +kernel
theorem dX8_useFault_30 : decode cX8_useFault 30 = .ok (.iconst 1, 1) := by decide +kernel
theorem dX8_useFault_31 : decode cX8_useFault 31 = .ok (.goto 17, 3) := by decide +kernel
theorem dX8_useFault_34 : decode cX8_useFault 34 = .ok (.aload_n 0, 1) := by decide +kernel
theorem dX8_useFault_35 : decode cX8_useFault 35 = .ok (.getfield 7, 3) := by decide +kernel
theorem dX8_useFault_38 : decode cX8_useFault 38 = .ok (.iload_n 2, 1) := by decide +kernel
theorem dX8_useFault_39 : decode cX8_useFault 39 = .ok (.baload, 1) := by decide +kernel
theorem dX8_useFault_40 : decode cX8_useFault 40 = .ok (.ifCond .ne 7, 3) := by decide +kernel
theorem dX8_useFault_43 : decode cX8_useFault 43 = .ok (.iconst 2, 1) := by decide +kernel
theorem dX8_useFault_44 : decode cX8_useFault 44 = .ok (.goto 4, 3) := by decide +kernel
theorem dX8_useFault_47 : decode cX8_useFault 47 = .ok (.iconst 0, 1) := by decide +kernel
theorem dX8_useFault_48 : decode cX8_useFault 48 = .ok (.ireturn, 1) := by decide +kernel
theorem dX8_foretell_0 : decode cX8_foretell 0 = .ok (.aload_n 0, 1) := by decide +kernel
theorem dX8_foretell_1 : decode cX8_foretell 1 = .ok (.aload_n 0, 1) := by decide +kernel
theorem dX8_foretell_2 : decode cX8_foretell 2 = .ok (.iload_n 1, 1) := by decide +kernel
theorem dX8_foretell_3 : decode cX8_foretell 3 = .ok (.iload_n 2, 1) := by decide +kernel
theorem dX8_foretell_4 : decode cX8_foretell 4 = .ok (.iload_n 3, 1) := by decide +kernel
theorem dX8_foretell_5 : decode cX8_foretell 5 = .ok (.invokevirtual 212, 3) := by decide +kernel
theorem dX8_foretell_8 : decode cX8_foretell 8 = .ok (.putfield 122, 3) := by decide +kernel
theorem dX8_foretell_11 : decode cX8_foretell 11 = .ok (.aload_n 0, 1) := by decide +kernel
theorem dX8_foretell_12 : decode cX8_foretell 12 = .ok (.getfield 122, 3) := by decide +kernel
theorem dX8_foretell_15 : decode cX8_foretell 15 = .ok (.ifCond .le 7, 3) := by decide +kernel
theorem dX8_foretell_18 : decode cX8_foretell 18 = .ok (.iconst 0, 1) := by decide +kernel
theorem dX8_foretell_19 : decode cX8_foretell 19 = .ok (.goto 10, 3) := by decide +kernel
theorem dX8_foretell_22 : decode cX8_foretell 22 = .ok (.aload_n 0, 1) := by decide +kernel
theorem dX8_foretell_23 : decode cX8_foretell 23 = .ok (.iload_n 1, 1) := by decide +kernel
theorem dX8_foretell_24 : decode cX8_foretell 24 = .ok (.iload_n 2, 1) := by decide +kernel
theorem dX8_foretell_25 : decode cX8_foretell 25 = .ok (.iload_n 3, 1) := by decide +kernel
theorem dX8_foretell_26 : decode cX8_foretell 26 = .ok (.invokevirtual 215, 3) := by decide +kernel
theorem dX8_foretell_29 : decode cX8_foretell 29 = .ok (.ireturn, 1) := by decide +kernel
theorem dX8_runs_0 : decode cX8_runs 0 = .ok (.aload_n 0, 1) := by decide +kernel
theorem dX8_runs_1 : decode cX8_runs 1 = .ok (.aload_n 0, 1) := by decide +kernel
theorem dX8_runs_2 : decode cX8_runs 2 = .ok (.iload_n 1, 1) := by decide +kernel
theorem dX8_runs_3 : decode cX8_runs 3 = .ok (.iload_n 2, 1) := by decide +kernel
theorem dX8_runs_4 : decode cX8_runs 4 = .ok (.iload_n 3, 1) := by decide +kernel
theorem dX8_runs_5 : decode cX8_runs 5 = .ok (.invokevirtual 212, 3) := by decide +kernel
theorem dX8_runs_8 : decode cX8_runs 8 = .ok (.putfield 122, 3) := by decide +kernel
theorem dX8_runs_11 : decode cX8_runs 11 = .ok (.aload_n 0, 1) := by decide +kernel
theorem dX8_runs_12 : decode cX8_runs 12 = .ok (.getfield 122, 3) := by decide +kernel
theorem dX8_runs_15 : decode cX8_runs 15 = .ok (.ifCond .le 5, 3) := by decide +kernel
theorem dX8_runs_18 : decode cX8_runs 18 = .ok (.iconst 0, 1) := by decide +kernel
theorem dX8_runs_19 : decode cX8_runs 19 = .ok (.ireturn, 1) := by decide +kernel
theorem dX8_runs_20 : decode cX8_runs 20 = .ok (.aload_n 0, 1) := by decide +kernel
theorem dX8_runs_21 : decode cX8_runs 21 = .ok (.iload_n 1, 1) := by decide +kernel
theorem dX8_runs_22 : decode cX8_runs 22 = .ok (.iload_n 2, 1) := by decide +kernel
theorem dX8_runs_23 : decode cX8_runs 23 = .ok (.iload_n 3, 1) := by decide +kernel
theorem dX8_runs_24 : decode cX8_runs 24 = .ok (.invokevirtual 215, 3) := by decide +kernel
theorem dX8_runs_27 : decode cX8_runs 27 = .ok (.istore 4, 2) := by decide +kernel
theorem dX8_runs_29 : decode cX8_runs 29 = .ok (.iload 4, 2) := by decide +kernel
theorem dX8_runs_31 : decode cX8_runs 31 = .ok (.ifCond .eq 10, 3) := by decide +kernel
theorem dX8_runs_34 : decode cX8_runs 34 = .ok (.iload 4, 2) := by decide +kernel
theorem dX8_runs_36 : decode cX8_runs 36 = .ok (.bipush 8, 2) := by decide +kernel
theorem dX8_runs_38 : decode cX8_runs 38 = .ok (.if_icmp .ne 10, 3) := by decide +kernel
theorem dX8_runs_41 : decode cX8_runs 41 = .ok (.aload_n 0, 1) := by decide +kernel
theorem dX8_runs_42 : decode cX8_runs 42 = .ok (.getfield 192, 3) := by decide +kernel
theorem dX8_runs_45 : decode cX8_runs 45 = .ok (.goto 4, 3) := by decide +kernel
theorem dX8_runs_48 : decode cX8_runs 48 = .ok (.iconst (-1), 1) := by decide +kernel
theorem dX8_runs_49 : decode cX8_runs 49 = .ok (.ireturn, 1) := by decide +kernel
theorem dX8_copied_0 : decode cX8_copied 0 = .ok (.aload_n 0, 1) := by decide +kernel
theorem dX8_copied_1 : decode cX8_copied 1 = .ok (.aload_n 0, 1) := by decide +kernel
theorem dX8_copied_2 : decode cX8_copied 2 = .ok (.iload_n 1, 1) := by decide +kernel
theorem dX8_copied_3 : decode cX8_copied 3 = .ok (.invokevirtual 205, 3) := by decide +kernel
theorem dX8_copied_6 : decode cX8_copied 6 = .ok (.ifCond .eq 17, 3) := by decide +kernel
theorem dX8_copied_9 : decode cX8_copied 9 = .ok (.iload_n 2, 1) := by decide +kernel
theorem dX8_copied_10 : decode cX8_copied 10 = .ok (.ifCond .lt 13, 3) := by decide +kernel
theorem dX8_copied_13 : decode cX8_copied 13 = .ok (.iload_n 2, 1) := by decide +kernel
theorem dX8_copied_14 : decode cX8_copied 14 = .ok (.aload_n 0, 1) := by decide +kernel
theorem dX8_copied_15 : decode cX8_copied 15 = .ok (.getfield 77, 3) := by decide +kernel
theorem dX8_copied_18 : decode cX8_copied 18 = .ok (.iload_n 1, 1) := by decide +kernel
theorem dX8_copied_19 : decode cX8_copied 19 = .ok (.iaload, 1) := by decide +kernel
theorem dX8_copied_20 : decode cX8_copied 20 = .ok (.if_icmp .lt 7, 3) := by decide +kernel
theorem dX8_copied_23 : decode cX8_copied 23 = .ok (.iconst 1, 1) := by decide +kernel
theorem dX8_copied_24 : decode cX8_copied 24 = .ok (.goto 4, 3) := by decide +kernel
theorem dX8_copied_27 : decode cX8_copied 27 = .ok (.iconst 0, 1) := by decide +kernel
theorem dX8_copied_28 : decode cX8_copied 28 = .ok (.putfield 122, 3) := by decide +kernel
theorem dX8_copied_31 : decode cX8_copied 31 = .ok (.aload_n 0, 1) := by decide +kernel
theorem dX8_copied_32 : decode cX8_copied 32 = .ok (.getfield 122, 3) := by decide +kernel
theorem dX8_copied_35 : decode cX8_copied 35 = .ok (.ifCond .le 5, 3) := by decide +kernel
theorem dX8_copied_38 : decode cX8_copied 38 = .ok (.iconst 0, 1) := by decide +kernel
theorem dX8_copied_39 : decode cX8_copied 39 = .ok (.ireturn, 1) := by decide +kernel
theorem dX8_copied_40 : decode cX8_copied 40 = .ok (.bipush 20, 2) := by decide +kernel
theorem dX8_copied_42 : decode cX8_copied 42 = .ok (.iload_n 1, 1) := by decide +kernel
theorem dX8_copied_43 : decode cX8_copied 43 = .ok (.imul, 1) := by decide +kernel
theorem dX8_copied_44 : decode cX8_copied 44 = .ok (.iload_n 2, 1) := by decide +kernel
theorem dX8_copied_45 : decode cX8_copied 45 = .ok (.iadd, 1) := by decide +kernel
theorem dX8_copied_46 : decode cX8_copied 46 = .ok (.istore_n 3, 1) := by decide +kernel
theorem dX8_copied_47 : decode cX8_copied 47 = .ok (.aload_n 0, 1) := by decide +kernel
theorem dX8_copied_48 : decode cX8_copied 48 = .ok (.iload_n 1, 1) := by decide +kernel
theorem dX8_copied_49 : decode cX8_copied 49 = .ok (.aload_n 0, 1) := by decide +kernel
theorem dX8_copied_50 : decode cX8_copied 50 = .ok (.getfield 80, 3) := by decide +kernel
theorem dX8_copied_53 : decode cX8_copied 53 = .ok (.iload_n 3, 1) := by decide +kernel
theorem dX8_copied_54 : decode cX8_copied 54 = .ok (.iaload, 1) := by decide +kernel
theorem dX8_copied_55 : decode cX8_copied 55 = .ok (.aload_n 0, 1) := by decide +kernel
theorem dX8_copied_56 : decode cX8_copied 56 = .ok (.getfield 83, 3) := by decide +kernel
theorem dX8_copied_59 : decode cX8_copied 59 = .ok (.iload_n 3, 1) := by decide +kernel
theorem dX8_copied_60 : decode cX8_copied 60 = .ok (.iaload, 1) := by decide +kernel
theorem dX8_copied_61 : decode cX8_copied 61 = .ok (.aload_n 0, 1) := by decide +kernel
theorem dX8_copied_62 : decode cX8_copied 62 = .ok (.getfield 86, 3) := by decide +kernel
theorem dX8_copied_65 : decode cX8_copied 65 = .ok (.iload_n 3, 1) := by decide +kernel
theorem dX8_copied_66 : decode cX8_copied 66 = .ok (.iaload, 1) := by decide +kernel
theorem dX8_copied_67 : decode cX8_copied 67 = .ok (.aload_n 0, 1) := by decide +kernel
theorem dX8_copied_68 : decode cX8_copied 68 = .ok (.getfield 89, 3) := by decide +kernel
theorem dX8_copied_71 : decode cX8_copied 71 = .ok (.iload_n 3, 1) := by decide +kernel
theorem dX8_copied_72 : decode cX8_copied 72 = .ok (.iaload, 1) := by decide +kernel
theorem dX8_copied_73 : decode cX8_copied 73 = .ok (.invokevirtual 195, 3) := by decide +kernel
theorem dX8_copied_76 : decode cX8_copied 76 = .ok (.istore 4, 2) := by decide +kernel
theorem dX8_copied_78 : decode cX8_copied 78 = .ok (.iload 4, 2) := by decide +kernel
theorem dX8_copied_80 : decode cX8_copied 80 = .ok (.iconst (-1), 1) := by decide +kernel
theorem dX8_copied_81 : decode cX8_copied 81 = .ok (.if_icmp .ne 7, 3) := by decide +kernel
theorem dX8_copied_84 : decode cX8_copied 84 = .ok (.iconst (-1), 1) := by decide +kernel
theorem dX8_copied_85 : decode cX8_copied 85 = .ok (.goto 10, 3) := by decide +kernel
theorem dX8_copied_88 : decode cX8_copied 88 = .ok (.aload_n 0, 1) := by decide +kernel
theorem dX8_copied_89 : decode cX8_copied 89 = .ok (.getfield 59, 3) := by decide +kernel
theorem dX8_copied_92 : decode cX8_copied 92 = .ok (.iload 4, 2) := by decide +kernel
theorem dX8_copied_94 : decode cX8_copied 94 = .ok (.iaload, 1) := by decide +kernel
theorem dX8_copied_95 : decode cX8_copied 95 = .ok (.ireturn, 1) := by decide +kernel
theorem dX8_meets_0 : decode cX8_meets 0 = .ok (.aload_n 0, 1) := by decide +kernel
theorem dX8_meets_1 : decode cX8_meets 1 = .ok (.aload_n 0, 1) := by decide +kernel
theorem dX8_meets_2 : decode cX8_meets 2 = .ok (.iload_n 1, 1) := by decide +kernel
theorem dX8_meets_3 : decode cX8_meets 3 = .ok (.invokevirtual 205, 3) := by decide +kernel
theorem dX8_meets_6 : decode cX8_meets 6 = .ok (.ifCond .eq 11, 3) := by decide +kernel
theorem dX8_meets_9 : decode cX8_meets 9 = .ok (.aload_n 0, 1) := by decide +kernel
theorem dX8_meets_10 : decode cX8_meets 10 = .ok (.iload_n 2, 1) := by decide +kernel
theorem dX8_meets_11 : decode cX8_meets 11 = .ok (.invokevirtual 132, 3) := by decide +kernel
theorem dX8_meets_14 : decode cX8_meets 14 = .ok (.ifCond .ne 7, 3) := by decide +kernel
theorem dX8_meets_17 : decode cX8_meets 17 = .ok (.iconst 1, 1) := by decide +kernel
theorem dX8_meets_18 : decode cX8_meets 18 = .ok (.goto 17, 3) := by decide +kernel
theorem dX8_meets_21 : decode cX8_meets 21 = .ok (.aload_n 0, 1) := by decide +kernel
theorem dX8_meets_22 : decode cX8_meets 22 = .ok (.getfield 7, 3) := by decide +kernel
theorem dX8_meets_25 : decode cX8_meets 25 = .ok (.iload_n 2, 1) := by decide +kernel
theorem dX8_meets_26 : decode cX8_meets 26 = .ok (.baload, 1) := by decide +kernel
theorem dX8_meets_27 : decode cX8_meets 27 = .ok (.ifCond .ne 7, 3) := by decide +kernel
theorem dX8_meets_30 : decode cX8_meets 30 = .ok (.iconst 2, 1) := by decide +kernel
theorem dX8_meets_31 : decode cX8_meets 31 = .ok (.goto 4, 3) := by decide +kernel
theorem dX8_meets_34 : decode cX8_meets 34 = .ok (.iconst 0, 1) := by decide +kernel
theorem dX8_meets_35 : decode cX8_meets 35 = .ok (.putfield 122, 3) := by decide +kernel
theorem dX8_meets_38 : decode cX8_meets 38 = .ok (.aload_n 0, 1) := by decide +kernel
theorem dX8_meets_39 : decode cX8_meets 39 = .ok (.getfield 122, 3) := by decide +kernel
theorem dX8_meets_42 : decode cX8_meets 42 = .ok (.ifCond .le 5, 3) := by decide +kernel
theorem dX8_meets_45 : decode cX8_meets 45 = .ok (.iconst 0, 1) := by decide +kernel
theorem dX8_meets_46 : decode cX8_meets 46 = .ok (.ireturn, 1) := by decide +kernel
theorem dX8_meets_47 : decode cX8_meets 47 = .ok (.iconst 0, 1) := by decide +kernel
theorem dX8_meets_48 : decode cX8_meets 48 = .ok (.istore 4, 2) := by decide +kernel
theorem dX8_meets_50 : decode cX8_meets 50 = .ok (.iconst 0, 1) := by decide +kernel
theorem dX8_meets_51 : decode cX8_meets 51 = .ok (.istore 5, 2) := by decide +kernel
theorem dX8_meets_53 : decode cX8_meets 53 = .ok (.iload 5, 2) := by decide +kernel
theorem dX8_meets_55 : decode cX8_meets 55 = .ok (.aload_n 0, 1) := by decide +kernel
theorem dX8_meets_56 : decode cX8_meets 56 = .ok (.getfield 77, 3) := by decide +kernel
theorem dX8_meets_59 : decode cX8_meets 59 = .ok (.iload_n 1, 1) := by decide +kernel
theorem dX8_meets_60 : decode cX8_meets 60 = .ok (.iaload, 1) := by decide +kernel
theorem dX8_meets_61 : decode cX8_meets 61 = .ok (.if_icmp .ge 31, 3) := by decide +kernel
theorem dX8_meets_64 : decode cX8_meets 64 = .ok (.iload 4, 2) := by decide +kernel
theorem dX8_meets_66 : decode cX8_meets 66 = .ok (.aload_n 0, 1) := by decide +kernel
theorem dX8_meets_67 : decode cX8_meets 67 = .ok (.iload_n 1, 1) := by decide +kernel
theorem dX8_meets_68 : decode cX8_meets 68 = .ok (.iload_n 2, 1) := by decide +kernel
theorem dX8_meets_69 : decode cX8_meets 69 = .ok (.iload 5, 2) := by decide +kernel
theorem dX8_meets_71 : decode cX8_meets 71 = .ok (.invokevirtual 215, 3) := by decide +kernel
theorem dX8_meets_74 : decode cX8_meets 74 = .ok (.iload_n 3, 1) := by decide +kernel
theorem dX8_meets_75 : decode cX8_meets 75 = .ok (.if_icmp .ne 7, 3) := by decide +kernel
