theorem dL_below_0 : decode cL_below 0 = .ok (.iload_n 0, 1) := by decide +kernel
theorem dL_below_1 : decode cL_below 1 = .ok (.ldc 7, 2) := by decide +kernel
theorem dL_below_3 : decode cL_below 3 = .ok (.iand, 1) := by decide +kernel
theorem dL_below_4 : decode cL_below 4 = .ok (.iload_n 1, 1) := by decide +kernel
theorem dL_below_5 : decode cL_below 5 = .ok (.irem, 1) := by decide +kernel
theorem dL_below_6 : decode cL_below 6 = .ok (.ireturn, 1) := by decide +kernel
theorem dL_cell_0 : decode cL_cell 0 = .ok (.iload_n 1, 1) := by decide +kernel
theorem dL_cell_1 : decode cL_cell 1 = .ok (.aload_n 0, 1) := by decide +kernel
theorem dL_cell_2 : decode cL_cell 2 = .ok (.arraylength, 1) := by decide +kernel
theorem dL_cell_3 : decode cL_cell 3 = .ok (.if_icmp .ge 9, 3) := by decide +kernel
theorem dL_cell_6 : decode cL_cell 6 = .ok (.aload_n 0, 1) := by decide +kernel
theorem dL_cell_7 : decode cL_cell 7 = .ok (.iload_n 1, 1) := by decide +kernel
theorem dL_cell_8 : decode cL_cell 8 = .ok (.iaload, 1) := by decide +kernel
theorem dL_cell_9 : decode cL_cell 9 = .ok (.goto 9, 3) := by decide +kernel
theorem dL_cell_12 : decode cL_cell 12 = .ok (.ldc 8, 2) := by decide +kernel
theorem dL_cell_14 : decode cL_cell 14 = .ok (.iload_n 1, 1) := by decide +kernel
theorem dL_cell_15 : decode cL_cell 15 = .ok (.iconst 3, 1) := by decide +kernel
theorem dL_cell_16 : decode cL_cell 16 = .ok (.iadd, 1) := by decide +kernel
theorem dL_cell_17 : decode cL_cell 17 = .ok (.imul, 1) := by decide +kernel
theorem dL_cell_18 : decode cL_cell 18 = .ok (.ireturn, 1) := by decide +kernel
theorem dL_rate_0 : decode cL_rate 0 = .ok (.iconst 5, 1) := by decide +kernel
theorem dL_rate_1 : decode cL_rate 1 = .ok (.newarray .int, 2) := by decide +kernel
theorem dL_rate_3 : decode cL_rate 3 = .ok (.dup, 1) := by decide +kernel
theorem dL_rate_4 : decode cL_rate 4 = .ok (.iconst 0, 1) := by decide +kernel
theorem dL_rate_5 : decode cL_rate 5 = .ok (.iconst 1, 1) := by decide +kernel
theorem dL_rate_6 : decode cL_rate 6 = .ok (.iastore, 1) := by decide +kernel
theorem dL_rate_7 : decode cL_rate 7 = .ok (.dup, 1) := by decide +kernel
theorem dL_rate_8 : decode cL_rate 8 = .ok (.iconst 1, 1) := by decide +kernel
theorem dL_rate_9 : decode cL_rate 9 = .ok (.iconst 1, 1) := by decide +kernel
theorem dL_rate_10 : decode cL_rate 10 = .ok (.iastore, 1) := by decide +kernel
theorem dL_rate_11 : decode cL_rate 11 = .ok (.dup, 1) := by decide +kernel
theorem dL_rate_12 : decode cL_rate 12 = .ok (.iconst 2, 1) := by decide +kernel
theorem dL_rate_13 : decode cL_rate 13 = .ok (.bipush 100, 2) := by decide +kernel
theorem dL_rate_15 : decode cL_rate 15 = .ok (.iastore, 1) := by decide +kernel
theorem dL_rate_16 : decode cL_rate 16 = .ok (.dup, 1) := by decide +kernel
theorem dL_rate_17 : decode cL_rate 17 = .ok (.iconst 3, 1) := by decide +kernel
theorem dL_rate_18 : decode cL_rate 18 = .ok (.iconst 0, 1) := by decide +kernel
theorem dL_rate_19 : decode cL_rate 19 = .ok (.iastore, 1) := by decide +kernel
theorem dL_rate_20 : decode cL_rate 20 = .ok (.dup, 1) := by decide +kernel
theorem dL_rate_21 : decode cL_rate 21 = .ok (.iconst 4, 1) := by decide +kernel
theorem dL_rate_22 : decode cL_rate 22 = .ok (.iconst 1, 1) := by decide +kernel
theorem dL_rate_23 : decode cL_rate 23 = .ok (.iastore, 1) := by decide +kernel
theorem dL_rate_24 : decode cL_rate 24 = .ok (.astore_n 2, 1) := by decide +kernel
theorem dL_rate_25 : decode cL_rate 25 = .ok (.iconst 5, 1) := by decide +kernel
theorem dL_rate_26 : decode cL_rate 26 = .ok (.newarray .int, 2) := by decide +kernel
theorem dL_rate_28 : decode cL_rate 28 = .ok (.dup, 1) := by decide +kernel
theorem dL_rate_29 : decode cL_rate 29 = .ok (.iconst 0, 1) := by decide +kernel
theorem dL_rate_30 : decode cL_rate 30 = .ok (.bipush 40, 2) := by decide +kernel
theorem dL_rate_32 : decode cL_rate 32 = .ok (.iastore, 1) := by decide +kernel
theorem dL_rate_33 : decode cL_rate 33 = .ok (.dup, 1) := by decide +kernel
theorem dL_rate_34 : decode cL_rate 34 = .ok (.iconst 1, 1) := by decide +kernel
theorem dL_rate_35 : decode cL_rate 35 = .ok (.bipush 99, 2) := by decide +kernel
theorem dL_rate_37 : decode cL_rate 37 = .ok (.iastore, 1) := by decide +kernel
theorem dL_rate_38 : decode cL_rate 38 = .ok (.dup, 1) := by decide +kernel
theorem dL_rate_39 : decode cL_rate 39 = .ok (.iconst 2, 1) := by decide +kernel
theorem dL_rate_40 : decode cL_rate 40 = .ok (.sipush 801, 3) := by decide +kernel
theorem dL_rate_43 : decode cL_rate 43 = .ok (.iastore, 1) := by decide +kernel
theorem dL_rate_44 : decode cL_rate 44 = .ok (.dup, 1) := by decide +kernel
theorem dL_rate_45 : decode cL_rate 45 = .ok (.iconst 3, 1) := by decide +kernel
theorem dL_rate_46 : decode cL_rate 46 = .ok (.bipush 101, 2) := by decide +kernel
theorem dL_rate_48 : decode cL_rate 48 = .ok (.iastore, 1) := by decide +kernel
theorem dL_rate_49 : decode cL_rate 49 = .ok (.dup, 1) := by decide +kernel
theorem dL_rate_50 : decode cL_rate 50 = .ok (.iconst 4, 1) := by decide +kernel
theorem dL_rate_51 : decode cL_rate 51 = .ok (.bipush 9, 2) := by decide +kernel
theorem dL_rate_53 : decode cL_rate 53 = .ok (.iastore, 1) := by decide +kernel
theorem dL_rate_54 : decode cL_rate 54 = .ok (.astore_n 3, 1) := by decide +kernel
theorem dL_rate_55 : decode cL_rate 55 = .ok (.aload_n 2, 1) := by decide +kernel
theorem dL_rate_56 : decode cL_rate 56 = .ok (.iload_n 0, 1) := by decide +kernel
theorem dL_rate_57 : decode cL_rate 57 = .ok (.iaload, 1) := by decide +kernel
theorem dL_rate_58 : decode cL_rate 58 = .ok (.iload_n 1, 1) := by decide +kernel
theorem dL_rate_59 : decode cL_rate 59 = .ok (.aload_n 3, 1) := by decide +kernel
theorem dL_rate_60 : decode cL_rate 60 = .ok (.iload_n 0, 1) := by decide +kernel
theorem dL_rate_61 : decode cL_rate 61 = .ok (.iaload, 1) := by decide +kernel
theorem dL_rate_62 : decode cL_rate 62 = .ok (.invokestatic 9, 3) := by decide +kernel
theorem dL_rate_65 : decode cL_rate 65 = .ok (.iadd, 1) := by decide +kernel
theorem dL_rate_66 : decode cL_rate 66 = .ok (.ireturn, 1) := by decide +kernel
theorem dL_act_0 : decode cL_act 0 = .ok (.aload_n 1, 1) := by decide +kernel
theorem dL_act_1 : decode cL_act 1 = .ok (.getfield 15, 3) := by decide +kernel
theorem dL_act_4 : decode cL_act 4 = .ok (.arraylength, 1) := by decide +kernel
theorem dL_act_5 : decode cL_act 5 = .ok (.istore_n 3, 1) := by decide +kernel
theorem dL_act_6 : decode cL_act 6 = .ok (.iload_n 3, 1) := by decide +kernel
theorem dL_act_7 : decode cL_act 7 = .ok (.ifCond .ne 7, 3) := by decide +kernel
theorem dL_act_10 : decode cL_act 10 = .ok (.iconst 0, 1) := by decide +kernel
theorem dL_act_11 : decode cL_act 11 = .ok (.goto 10, 3) := by decide +kernel
theorem dL_act_14 : decode cL_act 14 = .ok (.iload_n 2, 1) := by decide +kernel
theorem dL_act_15 : decode cL_act 15 = .ok (.iconst 1, 1) := by decide +kernel
theorem dL_act_16 : decode cL_act 16 = .ok (.ishr, 1) := by decide +kernel
theorem dL_act_17 : decode cL_act 17 = .ok (.iload_n 3, 1) := by decide +kernel
theorem dL_act_18 : decode cL_act 18 = .ok (.invokestatic 9, 3) := by decide +kernel
theorem dL_act_21 : decode cL_act 21 = .ok (.istore 4, 2) := by decide +kernel
theorem dL_act_23 : decode cL_act 23 = .ok (.iload_n 3, 1) := by decide +kernel
theorem dL_act_24 : decode cL_act 24 = .ok (.ifCond .ne 7, 3) := by decide +kernel
theorem dL_act_27 : decode cL_act 27 = .ok (.aconst_null, 1) := by decide +kernel
theorem dL_act_28 : decode cL_act 28 = .ok (.goto 10, 3) := by decide +kernel
theorem dL_act_31 : decode cL_act 31 = .ok (.aload_n 1, 1) := by decide +kernel
theorem dL_act_32 : decode cL_act 32 = .ok (.getfield 15, 3) := by decide +kernel
theorem dL_act_35 : decode cL_act 35 = .ok (.iload 4, 2) := by decide +kernel
theorem dL_act_37 : decode cL_act 37 = .ok (.aaload, 1) := by decide +kernel
theorem dL_act_38 : decode cL_act 38 = .ok (.astore 5, 2) := by decide +kernel
theorem dL_act_40 : decode cL_act 40 = .ok (.iload_n 2, 1) := by decide +kernel
theorem dL_act_41 : decode cL_act 41 = .ok (.bipush 9, 2) := by decide +kernel
theorem dL_act_43 : decode cL_act 43 = .ok (.ishr, 1) := by decide +kernel
theorem dL_act_44 : decode cL_act 44 = .ok (.bipush 18, 2) := by decide +kernel
theorem dL_act_46 : decode cL_act 46 = .ok (.invokestatic 9, 3) := by decide +kernel
theorem dL_act_49 : decode cL_act 49 = .ok (.tableswitch 469 0 10 #[59, 59, 154, 211, 211, 282, 282, 282, 359, 359, 442], 59) := by decide +kernel
theorem dL_act_108 : decode cL_act 108 = .ok (.iload_n 3, 1) := by decide +kernel
theorem dL_act_109 : decode cL_act 109 = .ok (.bipush 8, 2) := by decide +kernel
theorem dL_act_111 : decode cL_act 111 = .ok (.if_icmp .ne 5, 3) := by decide +kernel
theorem dL_act_114 : decode cL_act 114 = .ok (.iconst 1, 1) := by decide +kernel
theorem dL_act_115 : decode cL_act 115 = .ok (.ireturn, 1) := by decide +kernel
theorem dL_act_116 : decode cL_act 116 = .ok (.iload_n 3, 1) := by decide +kernel
theorem dL_act_117 : decode cL_act 117 = .ok (.iconst 1, 1) := by decide +kernel
theorem dL_act_118 : decode cL_act 118 = .ok (.iadd, 1) := by decide +kernel
theorem dL_act_119 : decode cL_act 119 = .ok (.anewarray 21, 3) := by decide +kernel
theorem dL_act_122 : decode cL_act 122 = .ok (.astore 6, 2) := by decide +kernel
theorem dL_act_124 : decode cL_act 124 = .ok (.iconst 0, 1) := by decide +kernel
theorem dL_act_125 : decode cL_act 125 = .ok (.istore 7, 2) := by decide +kernel
theorem dL_act_127 : decode cL_act 127 = .ok (.iload 7, 2) := by decide +kernel
theorem dL_act_129 : decode cL_act 129 = .ok (.iload_n 3, 1) := by decide +kernel
theorem dL_act_130 : decode cL_act 130 = .ok (.if_icmp .ge 21, 3) := by decide +kernel
theorem dL_act_133 : decode cL_act 133 = .ok (.aload 6, 2) := by decide +kernel
theorem dL_act_135 : decode cL_act 135 = .ok (.iload 7, 2) := by decide +kernel
theorem dL_act_137 : decode cL_act 137 = .ok (.aload_n 1, 1) := by decide +kernel
theorem dL_act_138 : decode cL_act 138 = .ok (.getfield 15, 3) := by decide +kernel
theorem dL_act_141 : decode cL_act 141 = .ok (.iload 7, 2) := by decide +kernel
theorem dL_act_143 : decode cL_act 143 = .ok (.aaload, 1) := by decide +kernel
theorem dL_act_144 : decode cL_act 144 = .ok (.aastore, 1) := by decide +kernel
theorem dL_act_145 : decode cL_act 145 = .ok (.iinc 7 1, 3) := by decide +kernel
theorem dL_act_148 : decode cL_act 148 = .ok (.goto (-21), 3) := by decide +kernel
theorem dL_act_151 : decode cL_act 151 = .ok (.aload 6, 2) := by decide +kernel
theorem dL_act_153 : decode cL_act 153 = .ok (.iload_n 3, 1) := by decide +kernel
theorem dL_act_154 : decode cL_act 154 = .ok (.new 21, 3) := by decide +kernel
theorem dL_act_157 : decode cL_act 157 = .ok (.dup, 1) := by decide +kernel
theorem dL_act_158 : decode cL_act 158 = .ok (.invokespecial 23, 3) := by decide +kernel
theorem dL_act_161 : decode cL_act 161 = .ok (.aastore, 1) := by decide +kernel
theorem dL_act_162 : decode cL_act 162 = .ok (.aload 6, 2) := by decide +kernel
theorem dL_act_164 : decode cL_act 164 = .ok (.iload_n 3, 1) := by decide +kernel
theorem dL_act_165 : decode cL_act 165 = .ok (.aaload, 1) := by decide +kernel
theorem dL_act_166 : decode cL_act 166 = .ok (.iload_n 2, 1) := by decide +kernel
theorem dL_act_167 : decode cL_act 167 = .ok (.iconst 1, 1) := by decide +kernel
theorem dL_act_168 : decode cL_act 168 = .ok (.ishr, 1) := by decide +kernel
theorem dL_act_169 : decode cL_act 169 = .ok (.iconst 3, 1) := by decide +kernel
theorem dL_act_170 : decode cL_act 170 = .ok (.invokestatic 9, 3) := by decide +kernel
theorem dL_act_173 : decode cL_act 173 = .ok (.putfield 24, 3) := by decide +kernel
theorem dL_act_176 : decode cL_act 176 = .ok (.aload_n 1, 1) := by decide +kernel
theorem dL_act_177 : decode cL_act 177 = .ok (.aload 6, 2) := by decide +kernel
theorem dL_act_179 : decode cL_act 179 = .ok (.putfield 15, 3) := by decide +kernel
theorem dL_act_182 : decode cL_act 182 = .ok (.aload_n 0, 1) := by decide +kernel
theorem dL_act_183 : decode cL_act 183 = .ok (.aload 6, 2) := by decide +kernel
theorem dL_act_185 : decode cL_act 185 = .ok (.iload_n 3, 1) := by decide +kernel
theorem dL_act_186 : decode cL_act 186 = .ok (.aaload, 1) := by decide +kernel
theorem dL_act_187 : decode cL_act 187 = .ok (.getfield 24, 3) := by decide +kernel
theorem dL_act_190 : decode cL_act 190 = .ok (.invokevirtual 28, 3) := by decide +kernel
theorem dL_act_193 : decode cL_act 193 = .ok (.iload_n 3, 1) := by decide +kernel
theorem dL_act_194 : decode cL_act 194 = .ok (.if_icmp .ne 7, 3) := by decide +kernel
theorem dL_act_197 : decode cL_act 197 = .ok (.iconst 1, 1) := by decide +kernel
theorem dL_act_198 : decode cL_act 198 = .ok (.goto 4, 3) := by decide +kernel
theorem dL_act_201 : decode cL_act 201 = .ok (.iconst 0, 1) := by decide +kernel
theorem dL_act_202 : decode cL_act 202 = .ok (.ireturn, 1) := by decide +kernel
theorem dL_act_203 : decode cL_act 203 = .ok (.iload_n 2, 1) := by decide +kernel
theorem dL_act_204 : decode cL_act 204 = .ok (.iconst 1, 1) := by decide +kernel
theorem dL_act_205 : decode cL_act 205 = .ok (.ishr, 1) := by decide +kernel
theorem dL_act_206 : decode cL_act 206 = .ok (.iconst 5, 1) := by decide +kernel
theorem dL_act_207 : decode cL_act 207 = .ok (.invokestatic 9, 3) := by decide +kernel
theorem dL_act_210 : decode cL_act 210 = .ok (.istore 7, 2) := by decide +kernel
theorem dL_act_212 : decode cL_act 212 = .ok (.aload_n 1, 1) := by decide +kernel
theorem dL_act_213 : decode cL_act 213 = .ok (.getfield 34, 3) := by decide +kernel
theorem dL_act_216 : decode cL_act 216 = .ok (.iload 7, 2) := by decide +kernel
theorem dL_act_218 : decode cL_act 218 = .ok (.iaload, 1) := by decide +kernel
theorem dL_act_219 : decode cL_act 219 = .ok (.istore 8, 2) := by decide +kernel
theorem dL_act_221 : decode cL_act 221 = .ok (.aload_n 1, 1) := by decide +kernel
theorem dL_act_222 : decode cL_act 222 = .ok (.getfield 34, 3) := by decide +kernel
theorem dL_act_225 : decode cL_act 225 = .ok (.iload 7, 2) := by decide +kernel
theorem dL_act_227 : decode cL_act 227 = .ok (.iload 7, 2) := by decide +kernel
theorem dL_act_229 : decode cL_act 229 = .ok (.iload_n 2, 1) := by decide +kernel
theorem dL_act_230 : decode cL_act 230 = .ok (.iconst 3, 1) := by decide +kernel
theorem dL_act_231 : decode cL_act 231 = .ok (.ishr, 1) := by decide +kernel
theorem dL_act_232 : decode cL_act 232 = .ok (.invokestatic 38, 3) := by decide +kernel
theorem dL_act_235 : decode cL_act 235 = .ok (.iastore, 1) := by decide +kernel
theorem dL_act_236 : decode cL_act 236 = .ok (.aload_n 0, 1) := by decide +kernel
theorem dL_act_237 : decode cL_act 237 = .ok (.iload 7, 2) := by decide +kernel
theorem dL_act_239 : decode cL_act 239 = .ok (.aload_n 1, 1) := by decide +kernel
theorem dL_act_240 : decode cL_act 240 = .ok (.getfield 34, 3) := by decide +kernel
theorem dL_act_243 : decode cL_act 243 = .ok (.iload 7, 2) := by decide +kernel
theorem dL_act_245 : decode cL_act 245 = .ok (.iaload, 1) := by decide +kernel
theorem dL_act_246 : decode cL_act 246 = .ok (.invokevirtual 41, 3) := by decide +kernel
theorem dL_act_249 : decode cL_act 249 = .ok (.iload 8, 2) := by decide +kernel
theorem dL_act_251 : decode cL_act 251 = .ok (.if_icmp .ne 7, 3) := by decide +kernel
theorem dL_act_254 : decode cL_act 254 = .ok (.iconst 1, 1) := by decide +kernel
theorem dL_act_255 : decode cL_act 255 = .ok (.goto 4, 3) := by decide +kernel
theorem dL_act_258 : decode cL_act 258 = .ok (.iconst 0, 1) := by decide +kernel
theorem dL_act_259 : decode cL_act 259 = .ok (.ireturn, 1) := by decide +kernel
theorem dL_act_260 : decode cL_act 260 = .ok (.iload_n 2, 1) := by decide +kernel
theorem dL_act_261 : decode cL_act 261 = .ok (.iconst 1, 1) := by decide +kernel
theorem dL_act_262 : decode cL_act 262 = .ok (.ishr, 1) := by decide +kernel
theorem dL_act_263 : decode cL_act 263 = .ok (.iconst 3, 1) := by decide +kernel
theorem dL_act_264 : decode cL_act 264 = .ok (.invokestatic 9, 3) := by decide +kernel
theorem dL_act_267 : decode cL_act 267 = .ok (.istore 9, 2) := by decide +kernel
theorem dL_act_269 : decode cL_act 269 = .ok (.iconst 1, 1) := by decide +kernel
theorem dL_act_270 : decode cL_act 270 = .ok (.iload_n 2, 1) := by decide +kernel
theorem dL_act_271 : decode cL_act 271 = .ok (.iconst 3, 1) := by decide +kernel
theorem dL_act_272 : decode cL_act 272 = .ok (.ishr, 1) := by decide +kernel
theorem dL_act_273 : decode cL_act 273 = .ok (.iload_n 2, 1) := by decide +kernel
theorem dL_act_274 : decode cL_act 274 = .ok (.iconst 3, 1) := by decide +kernel
theorem dL_act_275 : decode cL_act 275 = .ok (.invokestatic 9, 3) := by decide +kernel
theorem dL_act_278 : decode cL_act 278 = .ok (.ifCond .ne 9, 3) := by decide +kernel
theorem dL_act_281 : decode cL_act 281 = .ok (.sipush 500, 3) := by decide +kernel
theorem dL_act_284 : decode cL_act 284 = .ok (.goto 5, 3) := by decide +kernel
theorem dL_act_287 : decode cL_act 287 = .ok (.bipush 30, 2) := by decide +kernel
theorem dL_act_289 : decode cL_act 289 = .ok (.invokestatic 9, 3) := by decide +kernel
theorem dL_act_292 : decode cL_act 292 = .ok (.iadd, 1) := by decide +kernel
theorem dL_act_293 : decode cL_act 293 = .ok (.istore 10, 2) := by decide +kernel
theorem dL_act_295 : decode cL_act 295 = .ok (.aload_n 1, 1) := by decide +kernel
theorem dL_act_296 : decode cL_act 296 = .ok (.getfield 44, 3) := by decide +kernel
theorem dL_act_299 : decode cL_act 299 = .ok (.iload 9, 2) := by decide +kernel
theorem dL_act_301 : decode cL_act 301 = .ok (.dup2, 1) := by decide +kernel
theorem dL_act_302 : decode cL_act 302 = .ok (.iaload, 1) := by decide +kernel
theorem dL_act_303 : decode cL_act 303 = .ok (.iload 10, 2) := by decide +kernel
theorem dL_act_305 : decode cL_act 305 = .ok (.iadd, 1) := by decide +kernel
theorem dL_act_306 : decode cL_act 306 = .ok (.iastore, 1) := by decide +kernel
theorem dL_act_307 : decode cL_act 307 = .ok (.aload_n 0, 1) := by decide +kernel
theorem dL_act_308 : decode cL_act 308 = .ok (.iload 9, 2) := by decide +kernel
theorem dL_act_310 : decode cL_act 310 = .ok (.iload 10, 2) := by decide +kernel
theorem dL_act_312 : decode cL_act 312 = .ok (.invokevirtual 47, 3) := by decide +kernel
theorem dL_act_315 : decode cL_act 315 = .ok (.aload_n 1, 1) := by decide +kernel
theorem dL_act_316 : decode cL_act 316 = .ok (.getfield 44, 3) := by decide +kernel
theorem dL_act_319 : decode cL_act 319 = .ok (.iload 9, 2) := by decide +kernel
theorem dL_act_321 : decode cL_act 321 = .ok (.iaload, 1) := by decide +kernel
theorem dL_act_322 : decode cL_act 322 = .ok (.if_icmp .ne 7, 3) := by decide +kernel
theorem dL_act_325 : decode cL_act 325 = .ok (.iconst 1, 1) := by decide +kernel
theorem dL_act_326 : decode cL_act 326 = .ok (.goto 4, 3) := by decide +kernel
theorem dL_act_329 : decode cL_act 329 = .ok (.iconst 0, 1) := by decide +kernel
theorem dL_act_330 : decode cL_act 330 = .ok (.ireturn, 1) := by decide +kernel
theorem dL_act_331 : decode cL_act 331 = .ok (.iload_n 3, 1) := by decide +kernel
theorem dL_act_332 : decode cL_act 332 = .ok (.ifCond .eq 14, 3) := by decide +kernel
theorem dL_act_335 : decode cL_act 335 = .ok (.aload 5, 2) := by decide +kernel
theorem dL_act_337 : decode cL_act 337 = .ok (.getfield 50, 3) := by decide +kernel
theorem dL_act_340 : decode cL_act 340 = .ok (.sipush 5000, 3) := by decide +kernel
theorem dL_act_343 : decode cL_act 343 = .ok (.if_icmp .le 5, 3) := by decide +kernel
theorem dL_act_346 : decode cL_act 346 = .ok (.iconst 1, 1) := by decide +kernel
theorem dL_act_347 : decode cL_act 347 = .ok (.ireturn, 1) := by decide +kernel
theorem dL_act_348 : decode cL_act 348 = .ok (.iconst 1, 1) := by decide +kernel
theorem dL_act_349 : decode cL_act 349 = .ok (.iload_n 2, 1) := by decide +kernel
theorem dL_act_350 : decode cL_act 350 = .ok (.iconst 3, 1) := by decide +kernel
theorem dL_act_351 : decode cL_act 351 = .ok (.ishr, 1) := by decide +kernel
theorem dL_act_352 : decode cL_act 352 = .ok (.iload_n 2, 1) := by decide +kernel
theorem dL_act_353 : decode cL_act 353 = .ok (.iconst 2, 1) := by decide +kernel
theorem dL_act_354 : decode cL_act 354 = .ok (.invokestatic 9, 3) := by decide +kernel
theorem dL_act_357 : decode cL_act 357 = .ok (.ifCond .ne 9, 3) := by decide +kernel
theorem dL_act_360 : decode cL_act 360 = .ok (.sipush 999, 3) := by decide +kernel
theorem dL_act_363 : decode cL_act 363 = .ok (.goto 5, 3) := by decide +kernel
theorem dL_act_366 : decode cL_act 366 = .ok (.bipush 90, 2) := by decide +kernel
theorem dL_act_368 : decode cL_act 368 = .ok (.invokestatic 9, 3) := by decide +kernel
theorem dL_act_371 : decode cL_act 371 = .ok (.iadd, 1) := by decide +kernel
theorem dL_act_372 : decode cL_act 372 = .ok (.istore 11, 2) := by decide +kernel
theorem dL_act_374 : decode cL_act 374 = .ok (.aload 5, 2) := by decide +kernel
theorem dL_act_376 : decode cL_act 376 = .ok (.dup, 1) := by decide +kernel
theorem dL_act_377 : decode cL_act 377 = .ok (.getfield 50, 3) := by decide +kernel
theorem dL_act_380 : decode cL_act 380 = .ok (.iload 11, 2) := by decide +kernel
theorem dL_act_382 : decode cL_act 382 = .ok (.iadd, 1) := by decide +kernel
theorem dL_act_383 : decode cL_act 383 = .ok (.putfield 50, 3) := by decide +kernel
theorem dL_act_386 : decode cL_act 386 = .ok (.aload_n 0, 1) := by decide +kernel
theorem dL_act_387 : decode cL_act 387 = .ok (.iload 4, 2) := by decide +kernel
theorem dL_act_389 : decode cL_act 389 = .ok (.iload 11, 2) := by decide +kernel
theorem dL_act_391 : decode cL_act 391 = .ok (.invokevirtual 53, 3) := by decide +kernel
theorem dL_act_394 : decode cL_act 394 = .ok (.aload 5, 2) := by decide +kernel
theorem dL_act_396 : decode cL_act 396 = .ok (.getfield 50, 3) := by decide +kernel
theorem dL_act_399 : decode cL_act 399 = .ok (.if_icmp .ne 7, 3) := by decide +kernel
theorem dL_act_402 : decode cL_act 402 = .ok (.iconst 1, 1) := by decide +kernel
theorem dL_act_403 : decode cL_act 403 = .ok (.goto 4, 3) := by decide +kernel
theorem dL_act_406 : decode cL_act 406 = .ok (.iconst 0, 1) := by decide +kernel
theorem dL_act_407 : decode cL_act 407 = .ok (.ireturn, 1) := by decide +kernel
theorem dL_act_408 : decode cL_act 408 = .ok (.iload_n 3, 1) := by decide +kernel
theorem dL_act_409 : decode cL_act 409 = .ok (.ifCond .ne 5, 3) := by decide +kernel
theorem dL_act_412 : decode cL_act 412 = .ok (.iconst 1, 1) := by decide +kernel
theorem dL_act_413 : decode cL_act 413 = .ok (.ireturn, 1) := by decide +kernel
theorem dL_act_414 : decode cL_act 414 = .ok (.iconst 1, 1) := by decide +kernel
theorem dL_act_415 : decode cL_act 415 = .ok (.iload_n 2, 1) := by decide +kernel
theorem dL_act_416 : decode cL_act 416 = .ok (.iconst 3, 1) := by decide +kernel
theorem dL_act_417 : decode cL_act 417 = .ok (.ishr, 1) := by decide +kernel
theorem dL_act_418 : decode cL_act 418 = .ok (.iload_n 2, 1) := by decide +kernel
theorem dL_act_419 : decode cL_act 419 = .ok (.iconst 2, 1) := by decide +kernel
theorem dL_act_420 : decode cL_act 420 = .ok (.invokestatic 9, 3) := by decide +kernel
theorem dL_act_423 : decode cL_act 423 = .ok (.ifCond .ne 9, 3) := by decide +kernel
theorem dL_act_426 : decode cL_act 426 = .ok (.sipush 2000, 3) := by decide +kernel
theorem dL_act_429 : decode cL_act 429 = .ok (.goto 6, 3) := by decide +kernel
theorem dL_act_432 : decode cL_act 432 = .ok (.sipush 200, 3) := by decide +kernel
theorem dL_act_435 : decode cL_act 435 = .ok (.invokestatic 9, 3) := by decide +kernel
theorem dL_act_438 : decode cL_act 438 = .ok (.iadd, 1) := by decide +kernel
theorem dL_act_439 : decode cL_act 439 = .ok (.istore 12, 2) := by decide +kernel
theorem dL_act_441 : decode cL_act 441 = .ok (.aload 5, 2) := by decide +kernel
theorem dL_act_443 : decode cL_act 443 = .ok (.getfield 56, 3) := by decide +kernel
theorem dL_act_446 : decode cL_act 446 = .ok (.iload 12, 2) := by decide +kernel
theorem dL_act_448 : decode cL_act 448 = .ok (.iadd, 1) := by decide +kernel
theorem dL_act_449 : decode cL_act 449 = .ok (.sipush 5000, 3) := by decide +kernel
theorem dL_act_452 : decode cL_act 452 = .ok (.if_icmp .le 5, 3) := by decide +kernel
theorem dL_act_455 : decode cL_act 455 = .ok (.iconst 1, 1) := by decide +kernel
theorem dL_act_456 : decode cL_act 456 = .ok (.ireturn, 1) := by decide +kernel
theorem dL_act_457 : decode cL_act 457 = .ok (.aload 5, 2) := by decide +kernel
theorem dL_act_459 : decode cL_act 459 = .ok (.dup, 1) := by decide +kernel
theorem dL_act_460 : decode cL_act 460 = .ok (.getfield 56, 3) := by decide +kernel
theorem dL_act_463 : decode cL_act 463 = .ok (.iload 12, 2) := by decide +kernel
theorem dL_act_465 : decode cL_act 465 = .ok (.iadd, 1) := by decide +kernel
theorem dL_act_466 : decode cL_act 466 = .ok (.putfield 56, 3) := by decide +kernel
theorem dL_act_469 : decode cL_act 469 = .ok (.aload_n 0, 1) := by decide +kernel
theorem dL_act_470 : decode cL_act 470 = .ok (.iload 4, 2) := by decide +kernel
theorem dL_act_472 : decode cL_act 472 = .ok (.iload 12, 2) := by decide +kernel
theorem dL_act_474 : decode cL_act 474 = .ok (.invokevirtual 59, 3) := by decide +kernel
theorem dL_act_477 : decode cL_act 477 = .ok (.aload 5, 2) := by decide +kernel
theorem dL_act_479 : decode cL_act 479 = .ok (.getfield 56, 3) := by decide +kernel
theorem dL_act_482 : decode cL_act 482 = .ok (.if_icmp .ne 7, 3) := by decide +kernel
theorem dL_act_485 : decode cL_act 485 = .ok (.iconst 1, 1) := by decide +kernel
theorem dL_act_486 : decode cL_act 486 = .ok (.goto 4, 3) := by decide +kernel
theorem dL_act_489 : decode cL_act 489 = .ok (.iconst 0, 1) := by decide +kernel
theorem dL_act_490 : decode cL_act 490 = .ok (.ireturn, 1) := by decide +kernel
theorem dL_act_491 : decode cL_act 491 = .ok (.iload_n 2, 1) := by decide +kernel
theorem dL_act_492 : decode cL_act 492 = .ok (.iconst 2, 1) := by decide +kernel
theorem dL_act_493 : decode cL_act 493 = .ok (.invokestatic 9, 3) := by decide +kernel
theorem dL_act_496 : decode cL_act 496 = .ok (.ifCond .ne 5, 3) := by decide +kernel
theorem dL_act_499 : decode cL_act 499 = .ok (.iconst 1, 1) := by decide +kernel
theorem dL_act_500 : decode cL_act 500 = .ok (.ireturn, 1) := by decide +kernel
theorem dL_act_501 : decode cL_act 501 = .ok (.aload_n 0, 1) := by decide +kernel
theorem dL_act_502 : decode cL_act 502 = .ok (.invokevirtual 62, 3) := by decide +kernel
theorem dL_act_505 : decode cL_act 505 = .ok (.aload_n 1, 1) := by decide +kernel
theorem dL_act_506 : decode cL_act 506 = .ok (.invokevirtual 66, 3) := by decide +kernel
theorem dL_act_509 : decode cL_act 509 = .ok (.if_icmp .ne 7, 3) := by decide +kernel
theorem dL_act_512 : decode cL_act 512 = .ok (.iconst 1, 1) := by decide +kernel
theorem dL_act_513 : decode cL_act 513 = .ok (.goto 4, 3) := by decide +kernel
theorem dL_act_516 : decode cL_act 516 = .ok (.iconst 0, 1) := by decide +kernel
theorem dL_act_517 : decode cL_act 517 = .ok (.ireturn, 1) := by decide +kernel
theorem dL_act_518 : decode cL_act 518 = .ok (.iload_n 3, 1) := by decide +kernel
theorem dL_act_519 : decode cL_act 519 = .ok (.ifCond .ne 5, 3) := by decide +kernel
theorem dL_act_522 : decode cL_act 522 = .ok (.iconst 1, 1) := by decide +kernel
theorem dL_act_523 : decode cL_act 523 = .ok (.ireturn, 1) := by decide +kernel
theorem dL_act_524 : decode cL_act 524 = .ok (.iload_n 2, 1) := by decide +kernel
theorem dL_act_525 : decode cL_act 525 = .ok (.iconst 3, 1) := by decide +kernel
theorem dL_act_526 : decode cL_act 526 = .ok (.ishr, 1) := by decide +kernel
theorem dL_act_527 : decode cL_act 527 = .ok (.bipush 17, 2) := by decide +kernel
theorem dL_act_529 : decode cL_act 529 = .ok (.invokestatic 9, 3) := by decide +kernel
theorem dL_act_532 : decode cL_act 532 = .ok (.istore 13, 2) := by decide +kernel
theorem dL_act_534 : decode cL_act 534 = .ok (.aload 5, 2) := by decide +kernel
theorem dL_act_536 : decode cL_act 536 = .ok (.getfield 67, 3) := by decide +kernel
theorem dL_act_539 : decode cL_act 539 = .ok (.iload 13, 2) := by decide +kernel
theorem dL_act_541 : decode cL_act 541 = .ok (.iadd, 1) := by decide +kernel
theorem dL_act_542 : decode cL_act 542 = .ok (.bipush 99, 2) := by decide +kernel
theorem dL_act_544 : decode cL_act 544 = .ok (.if_icmp .le 5, 3) := by decide +kernel
theorem dL_act_547 : decode cL_act 547 = .ok (.iconst 1, 1) := by decide +kernel
theorem dL_act_548 : decode cL_act 548 = .ok (.ireturn, 1) := by decide +kernel
theorem dL_act_549 : decode cL_act 549 = .ok (.iload_n 2, 1) := by decide +kernel
theorem dL_act_550 : decode cL_act 550 = .ok (.iconst 2, 1) := by decide +kernel
theorem dL_act_551 : decode cL_act 551 = .ok (.ishr, 1) := by decide +kernel
theorem dL_act_552 : decode cL_act 552 = .ok (.iconst 3, 1) := by decide +kernel
theorem dL_act_553 : decode cL_act 553 = .ok (.invokestatic 9, 3) := by decide +kernel
theorem dL_act_556 : decode cL_act 556 = .ok (.ifCond .ne 7, 3) := by decide +kernel
theorem dL_act_559 : decode cL_act 559 = .ok (.iconst 1, 1) := by decide +kernel
theorem dL_act_560 : decode cL_act 560 = .ok (.goto 4, 3) := by decide +kernel
theorem dL_act_563 : decode cL_act 563 = .ok (.iconst 0, 1) := by decide +kernel
theorem dL_act_564 : decode cL_act 564 = .ok (.istore 14, 2) := by decide +kernel
theorem dL_act_566 : decode cL_act 566 = .ok (.aload 5, 2) := by decide +kernel
theorem dL_act_568 : decode cL_act 568 = .ok (.dup, 1) := by decide +kernel
theorem dL_act_569 : decode cL_act 569 = .ok (.getfield 67, 3) := by decide +kernel
theorem dL_act_572 : decode cL_act 572 = .ok (.iload 13, 2) := by decide +kernel
theorem dL_act_574 : decode cL_act 574 = .ok (.iadd, 1) := by decide +kernel
theorem dL_act_575 : decode cL_act 575 = .ok (.putfield 67, 3) := by decide +kernel
theorem dL_act_578 : decode cL_act 578 = .ok (.aload 5, 2) := by decide +kernel
theorem dL_act_580 : decode cL_act 580 = .ok (.dup, 1) := by decide +kernel
theorem dL_act_581 : decode cL_act 581 = .ok (.getfield 70, 3) := by decide +kernel
theorem dL_act_584 : decode cL_act 584 = .ok (.iload 14, 2) := by decide +kernel
theorem dL_act_586 : decode cL_act 586 = .ok (.ifCond .eq 7, 3) := by decide +kernel
theorem dL_act_589 : decode cL_act 589 = .ok (.iconst 1, 1) := by decide +kernel
theorem dL_act_590 : decode cL_act 590 = .ok (.goto 4, 3) := by decide +kernel
theorem dL_act_593 : decode cL_act 593 = .ok (.iconst 0, 1) := by decide +kernel
theorem dL_act_594 : decode cL_act 594 = .ok (.iadd, 1) := by decide +kernel
theorem dL_act_595 : decode cL_act 595 = .ok (.putfield 70, 3) := by decide +kernel
theorem dL_act_598 : decode cL_act 598 = .ok (.aload_n 0, 1) := by decide +kernel
theorem dL_act_599 : decode cL_act 599 = .ok (.iload 4, 2) := by decide +kernel
theorem dL_act_601 : decode cL_act 601 = .ok (.iload 13, 2) := by decide +kernel
theorem dL_act_603 : decode cL_act 603 = .ok (.iload 14, 2) := by decide +kernel
theorem dL_act_605 : decode cL_act 605 = .ok (.invokevirtual 73, 3) := by decide +kernel
theorem dL_act_608 : decode cL_act 608 = .ok (.aload 5, 2) := by decide +kernel
theorem dL_act_610 : decode cL_act 610 = .ok (.getfield 67, 3) := by decide +kernel
theorem dL_act_613 : decode cL_act 613 = .ok (.if_icmp .ne 7, 3) := by decide +kernel
theorem dL_act_616 : decode cL_act 616 = .ok (.iconst 1, 1) := by decide +kernel
theorem dL_act_617 : decode cL_act 617 = .ok (.goto 4, 3) := by decide +kernel
theorem dL_act_620 : decode cL_act 620 = .ok (.iconst 0, 1) := by decide +kernel
theorem dL_act_621 : decode cL_act 621 = .ok (.ireturn, 1) := by decide +kernel
theorem dL_build_0 : decode cL_build 0 = .ok (.new 16, 3) := by decide +kernel
theorem dL_build_3 : decode cL_build 3 = .ok (.dup, 1) := by decide +kernel
theorem dL_build_4 : decode cL_build 4 = .ok (.invokespecial 77, 3) := by decide +kernel
theorem dL_build_7 : decode cL_build 7 = .ok (.astore_n 2, 1) := by decide +kernel
theorem dL_build_8 : decode cL_build 8 = .ok (.bipush 20, 2) := by decide +kernel
theorem dL_build_10 : decode cL_build 10 = .ok (.aload_n 1, 1) := by decide +kernel
theorem dL_build_11 : decode cL_build 11 = .ok (.iconst 0, 1) := by decide +kernel
theorem dL_build_12 : decode cL_build 12 = .ok (.invokestatic 78, 3) := by decide +kernel
theorem dL_build_15 : decode cL_build 15 = .ok (.bipush 60, 2) := by decide +kernel
theorem dL_build_17 : decode cL_build 17 = .ok (.invokestatic 9, 3) := by decide +kernel
theorem dL_build_20 : decode cL_build 20 = .ok (.iadd, 1) := by decide +kernel
theorem dL_build_21 : decode cL_build 21 = .ok (.istore_n 3, 1) := by decide +kernel
theorem dL_build_22 : decode cL_build 22 = .ok (.iconst 0, 1) := by decide +kernel
theorem dL_build_23 : decode cL_build 23 = .ok (.istore 4, 2) := by decide +kernel
theorem dL_build_25 : decode cL_build 25 = .ok (.iload 4, 2) := by decide +kernel
theorem dL_build_27 : decode cL_build 27 = .ok (.iload_n 3, 1) := by decide +kernel
theorem dL_build_28 : decode cL_build 28 = .ok (.if_icmp .ge 57, 3) := by decide +kernel
theorem dL_build_31 : decode cL_build 31 = .ok (.aload_n 0, 1) := by decide +kernel
theorem dL_build_32 : decode cL_build 32 = .ok (.aload_n 2, 1) := by decide +kernel
theorem dL_build_33 : decode cL_build 33 = .ok (.aload_n 1, 1) := by decide +kernel
theorem dL_build_34 : decode cL_build 34 = .ok (.iload 4, 2) := by decide +kernel
theorem dL_build_36 : decode cL_build 36 = .ok (.bipush 16, 2) := by decide +kernel
theorem dL_build_38 : decode cL_build 38 = .ok (.irem, 1) := by decide +kernel
theorem dL_build_39 : decode cL_build 39 = .ok (.invokestatic 78, 3) := by decide +kernel
theorem dL_build_42 : decode cL_build 42 = .ok (.iload 4, 2) := by decide +kernel
theorem dL_build_44 : decode cL_build 44 = .ok (.bipush 16, 2) := by decide +kernel
theorem dL_build_46 : decode cL_build 46 = .ok (.idiv, 1) := by decide +kernel
theorem dL_build_47 : decode cL_build 47 = .ok (.iconst 3, 1) := by decide +kernel
theorem dL_build_48 : decode cL_build 48 = .ok (.imul, 1) := by decide +kernel
theorem dL_build_49 : decode cL_build 49 = .ok (.ishr, 1) := by decide +kernel
theorem dL_build_50 : decode cL_build 50 = .ok (.sipush 401, 3) := by decide +kernel
theorem dL_build_53 : decode cL_build 53 = .ok (.iload 4, 2) := by decide +kernel
theorem dL_build_55 : decode cL_build 55 = .ok (.imul, 1) := by decide +kernel
theorem dL_build_56 : decode cL_build 56 = .ok (.iadd, 1) := by decide +kernel
theorem dL_build_57 : decode cL_build 57 = .ok (.iload 4, 2) := by decide +kernel
theorem dL_build_59 : decode cL_build 59 = .ok (.iconst 3, 1) := by decide +kernel
theorem dL_build_60 : decode cL_build 60 = .ok (.if_icmp .ge 9, 3) := by decide +kernel
theorem dL_build_63 : decode cL_build 63 = .ok (.sipush 512, 3) := by decide +kernel
theorem dL_build_66 : decode cL_build 66 = .ok (.goto 4, 3) := by decide +kernel
theorem dL_build_69 : decode cL_build 69 = .ok (.iconst 0, 1) := by decide +kernel
theorem dL_build_70 : decode cL_build 70 = .ok (.iadd, 1) := by decide +kernel
theorem dL_build_71 : decode cL_build 71 = .ok (.invokestatic 82, 3) := by decide +kernel
theorem dL_build_74 : decode cL_build 74 = .ok (.ifCond .ne 5, 3) := by decide +kernel
theorem dL_build_77 : decode cL_build 77 = .ok (.aconst_null, 1) := by decide +kernel
theorem dL_build_78 : decode cL_build 78 = .ok (.areturn, 1) := by decide +kernel
theorem dL_build_79 : decode cL_build 79 = .ok (.iinc 4 1, 3) := by decide +kernel
theorem dL_build_82 : decode cL_build 82 = .ok (.goto (-57), 3) := by decide +kernel
theorem dL_build_85 : decode cL_build 85 = .ok (.aload_n 2, 1) := by decide +kernel
theorem dL_build_86 : decode cL_build 86 = .ok (.areturn, 1) := by decide +kernel
