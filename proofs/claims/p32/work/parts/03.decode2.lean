theorem dX7_lowerEnd_17 : decode cX7_lowerEnd 17 = .ok (.getfield 59, 3) := by decide +kernel
theorem dX7_lowerEnd_20 : decode cX7_lowerEnd 20 = .ok (.iload_n 2, 1) := by decide +kernel
theorem dX7_lowerEnd_21 : decode cX7_lowerEnd 21 = .ok (.iaload, 1) := by decide +kernel
theorem dX7_lowerEnd_22 : decode cX7_lowerEnd 22 = .ok (.invokevirtual 286, 3) := by decide +kernel
theorem dX7_lowerEnd_25 : decode cX7_lowerEnd 25 = .ok (.invokestatic 290, 3) := by decide +kernel
theorem dX7_lowerEnd_28 : decode cX7_lowerEnd 28 = .ok (.iastore, 1) := by decide +kernel
theorem dX7_lowerEnd_29 : decode cX7_lowerEnd 29 = .ok (.return_, 1) := by decide +kernel
theorem dX7_hidingTowns_0 : decode cX7_hidingTowns 0 = .ok (.aload_n 0, 1) := by decide +kernel
theorem dX7_hidingTowns_1 : decode cX7_hidingTowns 1 = .ok (.getfield 10, 3) := by decide +kernel
theorem dX7_hidingTowns_4 : decode cX7_hidingTowns 4 = .ok (.getfield 260, 3) := by decide +kernel
theorem dX7_hidingTowns_7 : decode cX7_hidingTowns 7 = .ok (.iconst 2, 1) := by decide +kernel
theorem dX7_hidingTowns_8 : decode cX7_hidingTowns 8 = .ok (.iaload, 1) := by decide +kernel
theorem dX7_hidingTowns_9 : decode cX7_hidingTowns 9 = .ok (.istore_n 1, 1) := by decide +kernel
theorem dX7_hidingTowns_10 : decode cX7_hidingTowns 10 = .ok (.aload_n 0, 1) := by decide +kernel
theorem dX7_hidingTowns_11 : decode cX7_hidingTowns 11 = .ok (.getfield 52, 3) := by decide +kernel
theorem dX7_hidingTowns_14 : decode cX7_hidingTowns 14 = .ok (.aload_n 0, 1) := by decide +kernel
theorem dX7_hidingTowns_15 : decode cX7_hidingTowns 15 = .ok (.getfield 10, 3) := by decide +kernel
theorem dX7_hidingTowns_18 : decode cX7_hidingTowns 18 = .ok (.iload_n 1, 1) := by decide +kernel
theorem dX7_hidingTowns_19 : decode cX7_hidingTowns 19 = .ok (.invokevirtual 215, 3) := by decide +kernel
theorem dX7_hidingTowns_22 : decode cX7_hidingTowns 22 = .ok (.aload_n 0, 1) := by decide +kernel
theorem dX7_hidingTowns_23 : decode cX7_hidingTowns 23 = .ok (.getfield 56, 3) := by decide +kernel
theorem dX7_hidingTowns_26 : decode cX7_hidingTowns 26 = .ok (.aload_n 0, 1) := by decide +kernel
theorem dX7_hidingTowns_27 : decode cX7_hidingTowns 27 = .ok (.getfield 10, 3) := by decide +kernel
theorem dX7_hidingTowns_30 : decode cX7_hidingTowns 30 = .ok (.iload_n 1, 1) := by decide +kernel
theorem dX7_hidingTowns_31 : decode cX7_hidingTowns 31 = .ok (.invokevirtual 215, 3) := by decide +kernel
theorem dX7_hidingTowns_34 : decode cX7_hidingTowns 34 = .ok (.iconst 0, 1) := by decide +kernel
theorem dX7_hidingTowns_35 : decode cX7_hidingTowns 35 = .ok (.istore_n 2, 1) := by decide +kernel
theorem dX7_hidingTowns_36 : decode cX7_hidingTowns 36 = .ok (.iconst 0, 1) := by decide +kernel
theorem dX7_hidingTowns_37 : decode cX7_hidingTowns 37 = .ok (.istore_n 3, 1) := by decide +kernel
theorem dX7_hidingTowns_38 : decode cX7_hidingTowns 38 = .ok (.iload_n 3, 1) := by decide +kernel
theorem dX7_hidingTowns_39 : decode cX7_hidingTowns 39 = .ok (.bipush 8, 2) := by decide +kernel
theorem dX7_hidingTowns_41 : decode cX7_hidingTowns 41 = .ok (.if_icmp .ge 41, 3) := by decide +kernel
theorem dX7_hidingTowns_44 : decode cX7_hidingTowns 44 = .ok (.aload_n 0, 1) := by decide +kernel
theorem dX7_hidingTowns_45 : decode cX7_hidingTowns 45 = .ok (.getfield 52, 3) := by decide +kernel
theorem dX7_hidingTowns_48 : decode cX7_hidingTowns 48 = .ok (.getfield 219, 3) := by decide +kernel
theorem dX7_hidingTowns_51 : decode cX7_hidingTowns 51 = .ok (.iload_n 1, 1) := by decide +kernel
theorem dX7_hidingTowns_52 : decode cX7_hidingTowns 52 = .ok (.aaload, 1) := by decide +kernel
theorem dX7_hidingTowns_53 : decode cX7_hidingTowns 53 = .ok (.iload_n 3, 1) := by decide +kernel
theorem dX7_hidingTowns_54 : decode cX7_hidingTowns 54 = .ok (.laload, 1) := by decide +kernel
theorem dX7_hidingTowns_55 : decode cX7_hidingTowns 55 = .ok (.aload_n 0, 1) := by decide +kernel
theorem dX7_hidingTowns_56 : decode cX7_hidingTowns 56 = .ok (.getfield 56, 3) := by decide +kernel
theorem dX7_hidingTowns_59 : decode cX7_hidingTowns 59 = .ok (.getfield 219, 3) := by decide +kernel
theorem dX7_hidingTowns_62 : decode cX7_hidingTowns 62 = .ok (.iload_n 1, 1) := by decide +kernel
theorem dX7_hidingTowns_63 : decode cX7_hidingTowns 63 = .ok (.aaload, 1) := by decide +kernel
theorem dX7_hidingTowns_64 : decode cX7_hidingTowns 64 = .ok (.iload_n 3, 1) := by decide +kernel
theorem dX7_hidingTowns_65 : decode cX7_hidingTowns 65 = .ok (.laload, 1) := by decide +kernel
theorem dX7_hidingTowns_66 : decode cX7_hidingTowns 66 = .ok (.lcmp, 1) := by decide +kernel
theorem dX7_hidingTowns_67 : decode cX7_hidingTowns 67 = .ok (.ifCond .le 9, 3) := by decide +kernel
theorem dX7_hidingTowns_70 : decode cX7_hidingTowns 70 = .ok (.iload_n 2, 1) := by decide +kernel
theorem dX7_hidingTowns_71 : decode cX7_hidingTowns 71 = .ok (.iconst 1, 1) := by decide +kernel
theorem dX7_hidingTowns_72 : decode cX7_hidingTowns 72 = .ok (.iload_n 3, 1) := by decide +kernel
theorem dX7_hidingTowns_73 : decode cX7_hidingTowns 73 = .ok (.ishl, 1) := by decide +kernel
theorem dX7_hidingTowns_74 : decode cX7_hidingTowns 74 = .ok (.ior, 1) := by decide +kernel
theorem dX7_hidingTowns_75 : decode cX7_hidingTowns 75 = .ok (.istore_n 2, 1) := by decide +kernel
theorem dX7_hidingTowns_76 : decode cX7_hidingTowns 76 = .ok (.iinc 3 1, 3) := by decide +kernel
theorem dX7_hidingTowns_79 : decode cX7_hidingTowns 79 = .ok (.goto (-41), 3) := by decide +kernel
theorem dX7_hidingTowns_82 : decode cX7_hidingTowns 82 = .ok (.iload_n 2, 1) := by decide +kernel
theorem dX7_hidingTowns_83 : decode cX7_hidingTowns 83 = .ok (.ireturn, 1) := by decide +kernel
theorem dL_cell_0 : decode cL_cell 0 = .ok (.iload_n 1, 1) := by decide +kernel
theorem dL_cell_1 : decode cL_cell 1 = .ok (.aload_n 0, 1) := by decide +kernel
theorem dL_cell_2 : decode cL_cell 2 = .ok (.arraylength, 1) := by decide +kernel
theorem dL_cell_3 : decode cL_cell 3 = .ok (.if_icmp .ge 9, 3) := by decide +kernel
theorem dL_cell_6 : decode cL_cell 6 = .ok (.aload_n 0, 1) := by decide +kernel
theorem dL_cell_7 : decode cL_cell 7 = .ok (.iload_n 1, 1) := by decide +kernel
theorem dL_cell_8 : decode cL_cell 8 = .ok (.iaload, 1) := by decide +kernel
theorem dL_cell_9 : decode cL_cell 9 = .ok (.goto 16, 3) := by decide +kernel
theorem dL_cell_12 : decode cL_cell 12 = .ok (.sipush 7919, 3) := by decide +kernel
theorem dL_cell_15 : decode cL_cell 15 = .ok (.iload_n 1, 1) := by decide +kernel
theorem dL_cell_16 : decode cL_cell 16 = .ok (.bipush 7, 2) := by decide +kernel
theorem dL_cell_18 : decode cL_cell 18 = .ok (.iadd, 1) := by decide +kernel
theorem dL_cell_19 : decode cL_cell 19 = .ok (.imul, 1) := by decide +kernel
theorem dL_cell_20 : decode cL_cell 20 = .ok (.iload_n 1, 1) := by decide +kernel
theorem dL_cell_21 : decode cL_cell 21 = .ok (.bipush 127, 2) := by decide +kernel
theorem dL_cell_23 : decode cL_cell 23 = .ok (.iadd, 1) := by decide +kernel
theorem dL_cell_24 : decode cL_cell 24 = .ok (.imul, 1) := by decide +kernel
theorem dL_cell_25 : decode cL_cell 25 = .ok (.ireturn, 1) := by decide +kernel
theorem dL_low_0 : decode cL_low 0 = .ok (.iload_n 0, 1) := by decide +kernel
theorem dL_low_1 : decode cL_low 1 = .ok (.ldc 7, 2) := by decide +kernel
theorem dL_low_3 : decode cL_low 3 = .ok (.iand, 1) := by decide +kernel
theorem dL_low_4 : decode cL_low 4 = .ok (.iload_n 1, 1) := by decide +kernel
theorem dL_low_5 : decode cL_low 5 = .ok (.irem, 1) := by decide +kernel
theorem dL_low_6 : decode cL_low 6 = .ok (.ireturn, 1) := by decide +kernel
theorem dL_act_0 : decode cL_act 0 = .ok (.iload_n 1, 1) := by decide +kernel
theorem dL_act_1 : decode cL_act 1 = .ok (.iconst 4, 1) := by decide +kernel
theorem dL_act_2 : decode cL_act 2 = .ok (.ishr, 1) := by decide +kernel
theorem dL_act_3 : decode cL_act 3 = .ok (.istore_n 2, 1) := by decide +kernel
theorem dL_act_4 : decode cL_act 4 = .ok (.iload_n 1, 1) := by decide +kernel
theorem dL_act_5 : decode cL_act 5 = .ok (.bipush 21, 2) := by decide +kernel
theorem dL_act_7 : decode cL_act 7 = .ok (.ishr, 1) := by decide +kernel
theorem dL_act_8 : decode cL_act 8 = .ok (.bipush 6, 2) := by decide +kernel
theorem dL_act_10 : decode cL_act 10 = .ok (.invokestatic 8, 3) := by decide +kernel
theorem dL_act_13 : decode cL_act 13 = .ok (.ifCond .le 7, 3) := by decide +kernel
theorem dL_act_16 : decode cL_act 16 = .ok (.iconst 1, 1) := by decide +kernel
theorem dL_act_17 : decode cL_act 17 = .ok (.goto 4, 3) := by decide +kernel
theorem dL_act_20 : decode cL_act 20 = .ok (.iconst 0, 1) := by decide +kernel
theorem dL_act_21 : decode cL_act 21 = .ok (.istore_n 3, 1) := by decide +kernel
theorem dL_act_22 : decode cL_act 22 = .ok (.iload_n 2, 1) := by decide +kernel
theorem dL_act_23 : decode cL_act 23 = .ok (.iload_n 3, 1) := by decide +kernel
theorem dL_act_24 : decode cL_act 24 = .ok (.ifCond .eq 8, 3) := by decide +kernel
theorem dL_act_27 : decode cL_act 27 = .ok (.bipush 8, 2) := by decide +kernel
theorem dL_act_29 : decode cL_act 29 = .ok (.goto 5, 3) := by decide +kernel
theorem dL_act_32 : decode cL_act 32 = .ok (.bipush 9, 2) := by decide +kernel
theorem dL_act_34 : decode cL_act 34 = .ok (.invokestatic 8, 3) := by decide +kernel
theorem dL_act_37 : decode cL_act 37 = .ok (.istore 4, 2) := by decide +kernel
theorem dL_act_39 : decode cL_act 39 = .ok (.iload_n 2, 1) := by decide +kernel
theorem dL_act_40 : decode cL_act 40 = .ok (.aload_n 0, 1) := by decide +kernel
theorem dL_act_41 : decode cL_act 41 = .ok (.iconst 1, 1) := by decide +kernel
theorem dL_act_42 : decode cL_act 42 = .ok (.invokevirtual 14, 3) := by decide +kernel
theorem dL_act_45 : decode cL_act 45 = .ok (.iconst 1, 1) := by decide +kernel
theorem dL_act_46 : decode cL_act 46 = .ok (.iadd, 1) := by decide +kernel
theorem dL_act_47 : decode cL_act 47 = .ok (.invokestatic 8, 3) := by decide +kernel
theorem dL_act_50 : decode cL_act 50 = .ok (.istore 5, 2) := by decide +kernel
theorem dL_act_52 : decode cL_act 52 = .ok (.iload_n 2, 1) := by decide +kernel
theorem dL_act_53 : decode cL_act 53 = .ok (.iconst 3, 1) := by decide +kernel
theorem dL_act_54 : decode cL_act 54 = .ok (.ishr, 1) := by decide +kernel
theorem dL_act_55 : decode cL_act 55 = .ok (.aload_n 0, 1) := by decide +kernel
theorem dL_act_56 : decode cL_act 56 = .ok (.iconst 0, 1) := by decide +kernel
theorem dL_act_57 : decode cL_act 57 = .ok (.invokevirtual 14, 3) := by decide +kernel
theorem dL_act_60 : decode cL_act 60 = .ok (.iconst 1, 1) := by decide +kernel
theorem dL_act_61 : decode cL_act 61 = .ok (.iadd, 1) := by decide +kernel
theorem dL_act_62 : decode cL_act 62 = .ok (.invokestatic 8, 3) := by decide +kernel
theorem dL_act_65 : decode cL_act 65 = .ok (.istore 6, 2) := by decide +kernel
theorem dL_act_67 : decode cL_act 67 = .ok (.iload_n 1, 1) := by decide +kernel
theorem dL_act_68 : decode cL_act 68 = .ok (.bipush 16, 2) := by decide +kernel
theorem dL_act_70 : decode cL_act 70 = .ok (.invokestatic 8, 3) := by decide +kernel
theorem dL_act_73 : decode cL_act 73 = .ok (.tableswitch 302 0 14 #[75, 75, 75, 109, 109, 135, 135, 160, 185, 185, 209, 233, 233, 258, 276], 75) := by decide +kernel
theorem dL_act_148 : decode cL_act 148 = .ok (.aload_n 0, 1) := by decide +kernel
theorem dL_act_149 : decode cL_act 149 = .ok (.iload 4, 2) := by decide +kernel
theorem dL_act_151 : decode cL_act 151 = .ok (.iload_n 2, 1) := by decide +kernel
theorem dL_act_152 : decode cL_act 152 = .ok (.iconst 4, 1) := by decide +kernel
theorem dL_act_153 : decode cL_act 153 = .ok (.ishr, 1) := by decide +kernel
theorem dL_act_154 : decode cL_act 154 = .ok (.bipush 8, 2) := by decide +kernel
theorem dL_act_156 : decode cL_act 156 = .ok (.invokestatic 8, 3) := by decide +kernel
theorem dL_act_159 : decode cL_act 159 = .ok (.iload_n 2, 1) := by decide +kernel
theorem dL_act_160 : decode cL_act 160 = .ok (.bipush 7, 2) := by decide +kernel
theorem dL_act_162 : decode cL_act 162 = .ok (.ishr, 1) := by decide +kernel
theorem dL_act_163 : decode cL_act 163 = .ok (.iload_n 3, 1) := by decide +kernel
theorem dL_act_164 : decode cL_act 164 = .ok (.ifCond .eq 8, 3) := by decide +kernel
theorem dL_act_167 : decode cL_act 167 = .ok (.bipush 50, 2) := by decide +kernel
theorem dL_act_169 : decode cL_act 169 = .ok (.goto 6, 3) := by decide +kernel
theorem dL_act_172 : decode cL_act 172 = .ok (.sipush 210, 3) := by decide +kernel
theorem dL_act_175 : decode cL_act 175 = .ok (.invokestatic 8, 3) := by decide +kernel
theorem dL_act_178 : decode cL_act 178 = .ok (.invokevirtual 20, 3) := by decide +kernel
theorem dL_act_181 : decode cL_act 181 = .ok (.ireturn, 1) := by decide +kernel
theorem dL_act_182 : decode cL_act 182 = .ok (.aload_n 0, 1) := by decide +kernel
theorem dL_act_183 : decode cL_act 183 = .ok (.iload 4, 2) := by decide +kernel
theorem dL_act_185 : decode cL_act 185 = .ok (.iload_n 2, 1) := by decide +kernel
theorem dL_act_186 : decode cL_act 186 = .ok (.iconst 4, 1) := by decide +kernel
theorem dL_act_187 : decode cL_act 187 = .ok (.ishr, 1) := by decide +kernel
theorem dL_act_188 : decode cL_act 188 = .ok (.iload_n 3, 1) := by decide +kernel
theorem dL_act_189 : decode cL_act 189 = .ok (.ifCond .eq 9, 3) := by decide +kernel
theorem dL_act_192 : decode cL_act 192 = .ok (.sipush 180, 3) := by decide +kernel
theorem dL_act_195 : decode cL_act 195 = .ok (.goto 6, 3) := by decide +kernel
theorem dL_act_198 : decode cL_act 198 = .ok (.sipush 1100, 3) := by decide +kernel
theorem dL_act_201 : decode cL_act 201 = .ok (.invokestatic 8, 3) := by decide +kernel
theorem dL_act_204 : decode cL_act 204 = .ok (.invokevirtual 24, 3) := by decide +kernel
theorem dL_act_207 : decode cL_act 207 = .ok (.ireturn, 1) := by decide +kernel
theorem dL_act_208 : decode cL_act 208 = .ok (.aload_n 0, 1) := by decide +kernel
theorem dL_act_209 : decode cL_act 209 = .ok (.iload 6, 2) := by decide +kernel
theorem dL_act_211 : decode cL_act 211 = .ok (.iload_n 2, 1) := by decide +kernel
theorem dL_act_212 : decode cL_act 212 = .ok (.bipush 6, 2) := by decide +kernel
theorem dL_act_214 : decode cL_act 214 = .ok (.ishr, 1) := by decide +kernel
theorem dL_act_215 : decode cL_act 215 = .ok (.iload_n 3, 1) := by decide +kernel
theorem dL_act_216 : decode cL_act 216 = .ok (.ifCond .eq 8, 3) := by decide +kernel
theorem dL_act_219 : decode cL_act 219 = .ok (.bipush 8, 2) := by decide +kernel
theorem dL_act_221 : decode cL_act 221 = .ok (.goto 5, 3) := by decide +kernel
theorem dL_act_224 : decode cL_act 224 = .ok (.bipush 44, 2) := by decide +kernel
theorem dL_act_226 : decode cL_act 226 = .ok (.invokestatic 8, 3) := by decide +kernel
theorem dL_act_229 : decode cL_act 229 = .ok (.invokevirtual 27, 3) := by decide +kernel
theorem dL_act_232 : decode cL_act 232 = .ok (.ireturn, 1) := by decide +kernel
theorem dL_act_233 : decode cL_act 233 = .ok (.aload_n 0, 1) := by decide +kernel
theorem dL_act_234 : decode cL_act 234 = .ok (.iload 4, 2) := by decide +kernel
theorem dL_act_236 : decode cL_act 236 = .ok (.iload_n 2, 1) := by decide +kernel
theorem dL_act_237 : decode cL_act 237 = .ok (.iconst 4, 1) := by decide +kernel
theorem dL_act_238 : decode cL_act 238 = .ok (.ishr, 1) := by decide +kernel
theorem dL_act_239 : decode cL_act 239 = .ok (.iload_n 3, 1) := by decide +kernel
theorem dL_act_240 : decode cL_act 240 = .ok (.ifCond .eq 9, 3) := by decide +kernel
theorem dL_act_243 : decode cL_act 243 = .ok (.sipush 30000, 3) := by decide +kernel
theorem dL_act_246 : decode cL_act 246 = .ok (.goto 5, 3) := by decide +kernel
theorem dL_act_249 : decode cL_act 249 = .ok (.ldc 30, 2) := by decide +kernel
theorem dL_act_251 : decode cL_act 251 = .ok (.invokestatic 8, 3) := by decide +kernel
theorem dL_act_254 : decode cL_act 254 = .ok (.invokevirtual 31, 3) := by decide +kernel
theorem dL_act_257 : decode cL_act 257 = .ok (.ireturn, 1) := by decide +kernel
theorem dL_act_258 : decode cL_act 258 = .ok (.aload_n 0, 1) := by decide +kernel
theorem dL_act_259 : decode cL_act 259 = .ok (.iload 5, 2) := by decide +kernel
theorem dL_act_261 : decode cL_act 261 = .ok (.iload_n 2, 1) := by decide +kernel
theorem dL_act_262 : decode cL_act 262 = .ok (.iconst 5, 1) := by decide +kernel
theorem dL_act_263 : decode cL_act 263 = .ok (.ishr, 1) := by decide +kernel
theorem dL_act_264 : decode cL_act 264 = .ok (.iload_n 3, 1) := by decide +kernel
theorem dL_act_265 : decode cL_act 265 = .ok (.ifCond .eq 8, 3) := by decide +kernel
theorem dL_act_268 : decode cL_act 268 = .ok (.bipush 12, 2) := by decide +kernel
theorem dL_act_270 : decode cL_act 270 = .ok (.goto 5, 3) := by decide +kernel
theorem dL_act_273 : decode cL_act 273 = .ok (.bipush 105, 2) := by decide +kernel
theorem dL_act_275 : decode cL_act 275 = .ok (.invokestatic 8, 3) := by decide +kernel
theorem dL_act_278 : decode cL_act 278 = .ok (.invokevirtual 34, 3) := by decide +kernel
theorem dL_act_281 : decode cL_act 281 = .ok (.ireturn, 1) := by decide +kernel
theorem dL_act_282 : decode cL_act 282 = .ok (.aload_n 0, 1) := by decide +kernel
theorem dL_act_283 : decode cL_act 283 = .ok (.iload 5, 2) := by decide +kernel
theorem dL_act_285 : decode cL_act 285 = .ok (.iload_n 2, 1) := by decide +kernel
theorem dL_act_286 : decode cL_act 286 = .ok (.iconst 5, 1) := by decide +kernel
theorem dL_act_287 : decode cL_act 287 = .ok (.ishr, 1) := by decide +kernel
theorem dL_act_288 : decode cL_act 288 = .ok (.iload_n 3, 1) := by decide +kernel
theorem dL_act_289 : decode cL_act 289 = .ok (.ifCond .eq 8, 3) := by decide +kernel
theorem dL_act_292 : decode cL_act 292 = .ok (.bipush 8, 2) := by decide +kernel
theorem dL_act_294 : decode cL_act 294 = .ok (.goto 5, 3) := by decide +kernel
theorem dL_act_297 : decode cL_act 297 = .ok (.bipush 105, 2) := by decide +kernel
theorem dL_act_299 : decode cL_act 299 = .ok (.invokestatic 8, 3) := by decide +kernel
theorem dL_act_302 : decode cL_act 302 = .ok (.invokevirtual 37, 3) := by decide +kernel
theorem dL_act_305 : decode cL_act 305 = .ok (.ireturn, 1) := by decide +kernel
theorem dL_act_306 : decode cL_act 306 = .ok (.aload_n 0, 1) := by decide +kernel
theorem dL_act_307 : decode cL_act 307 = .ok (.iload 5, 2) := by decide +kernel
theorem dL_act_309 : decode cL_act 309 = .ok (.iload 6, 2) := by decide +kernel
theorem dL_act_311 : decode cL_act 311 = .ok (.iload_n 2, 1) := by decide +kernel
theorem dL_act_312 : decode cL_act 312 = .ok (.bipush 6, 2) := by decide +kernel
theorem dL_act_314 : decode cL_act 314 = .ok (.ishr, 1) := by decide +kernel
theorem dL_act_315 : decode cL_act 315 = .ok (.iload_n 3, 1) := by decide +kernel
theorem dL_act_316 : decode cL_act 316 = .ok (.ifCond .eq 7, 3) := by decide +kernel
theorem dL_act_319 : decode cL_act 319 = .ok (.iconst 2, 1) := by decide +kernel
theorem dL_act_320 : decode cL_act 320 = .ok (.goto 4, 3) := by decide +kernel
theorem dL_act_323 : decode cL_act 323 = .ok (.iconst 3, 1) := by decide +kernel
theorem dL_act_324 : decode cL_act 324 = .ok (.invokestatic 8, 3) := by decide +kernel
theorem dL_act_327 : decode cL_act 327 = .ok (.invokevirtual 40, 3) := by decide +kernel
theorem dL_act_330 : decode cL_act 330 = .ok (.ireturn, 1) := by decide +kernel
theorem dL_act_331 : decode cL_act 331 = .ok (.aload_n 0, 1) := by decide +kernel
theorem dL_act_332 : decode cL_act 332 = .ok (.iload_n 2, 1) := by decide +kernel
theorem dL_act_333 : decode cL_act 333 = .ok (.iconst 5, 1) := by decide +kernel
theorem dL_act_334 : decode cL_act 334 = .ok (.invokestatic 8, 3) := by decide +kernel
theorem dL_act_337 : decode cL_act 337 = .ok (.iload_n 2, 1) := by decide +kernel
theorem dL_act_338 : decode cL_act 338 = .ok (.iconst 4, 1) := by decide +kernel
theorem dL_act_339 : decode cL_act 339 = .ok (.ishr, 1) := by decide +kernel
theorem dL_act_340 : decode cL_act 340 = .ok (.bipush 45, 2) := by decide +kernel
theorem dL_act_342 : decode cL_act 342 = .ok (.invokestatic 8, 3) := by decide +kernel
theorem dL_act_345 : decode cL_act 345 = .ok (.invokevirtual 43, 3) := by decide +kernel
theorem dL_act_348 : decode cL_act 348 = .ok (.ireturn, 1) := by decide +kernel
theorem dL_act_349 : decode cL_act 349 = .ok (.aload_n 0, 1) := by decide +kernel
theorem dL_act_350 : decode cL_act 350 = .ok (.iload 6, 2) := by decide +kernel
theorem dL_act_352 : decode cL_act 352 = .ok (.iload_n 2, 1) := by decide +kernel
theorem dL_act_353 : decode cL_act 353 = .ok (.bipush 6, 2) := by decide +kernel
theorem dL_act_355 : decode cL_act 355 = .ok (.ishr, 1) := by decide +kernel
theorem dL_act_356 : decode cL_act 356 = .ok (.iload_n 3, 1) := by decide +kernel
theorem dL_act_357 : decode cL_act 357 = .ok (.ifCond .eq 8, 3) := by decide +kernel
theorem dL_act_360 : decode cL_act 360 = .ok (.bipush 40, 2) := by decide +kernel
theorem dL_act_362 : decode cL_act 362 = .ok (.goto 6, 3) := by decide +kernel
theorem dL_act_365 : decode cL_act 365 = .ok (.sipush 220, 3) := by decide +kernel
theorem dL_act_368 : decode cL_act 368 = .ok (.invokestatic 8, 3) := by decide +kernel
theorem dL_act_371 : decode cL_act 371 = .ok (.invokevirtual 46, 3) := by decide +kernel
theorem dL_act_374 : decode cL_act 374 = .ok (.ireturn, 1) := by decide +kernel
theorem dL_act_375 : decode cL_act 375 = .ok (.aload_n 0, 1) := by decide +kernel
theorem dL_act_376 : decode cL_act 376 = .ok (.invokevirtual 49, 3) := by decide +kernel
theorem dL_act_379 : decode cL_act 379 = .ok (.ireturn, 1) := by decide +kernel
theorem dL_areAlike_0 : decode cL_areAlike 0 = .ok (.iconst 1, 1) := by decide +kernel
theorem dL_areAlike_1 : decode cL_areAlike 1 = .ok (.istore_n 2, 1) := by decide +kernel
theorem dL_areAlike_2 : decode cL_areAlike 2 = .ok (.iconst 0, 1) := by decide +kernel
theorem dL_areAlike_3 : decode cL_areAlike 3 = .ok (.istore_n 3, 1) := by decide +kernel
theorem dL_areAlike_4 : decode cL_areAlike 4 = .ok (.iload_n 3, 1) := by decide +kernel
theorem dL_areAlike_5 : decode cL_areAlike 5 = .ok (.bipush 16, 2) := by decide +kernel
theorem dL_areAlike_7 : decode cL_areAlike 7 = .ok (.if_icmp .ge 32, 3) := by decide +kernel
theorem dL_areAlike_10 : decode cL_areAlike 10 = .ok (.iload_n 2, 1) := by decide +kernel
theorem dL_areAlike_11 : decode cL_areAlike 11 = .ok (.ifCond .eq 20, 3) := by decide +kernel
theorem dL_areAlike_14 : decode cL_areAlike 14 = .ok (.aload_n 0, 1) := by decide +kernel
theorem dL_areAlike_15 : decode cL_areAlike 15 = .ok (.iload_n 3, 1) := by decide +kernel
theorem dL_areAlike_16 : decode cL_areAlike 16 = .ok (.invokevirtual 14, 3) := by decide +kernel
theorem dL_areAlike_19 : decode cL_areAlike 19 = .ok (.aload_n 1, 1) := by decide +kernel
theorem dL_areAlike_20 : decode cL_areAlike 20 = .ok (.iload_n 3, 1) := by decide +kernel
theorem dL_areAlike_21 : decode cL_areAlike 21 = .ok (.invokevirtual 14, 3) := by decide +kernel
theorem dL_areAlike_24 : decode cL_areAlike 24 = .ok (.if_icmp .ne 7, 3) := by decide +kernel
theorem dL_areAlike_27 : decode cL_areAlike 27 = .ok (.iconst 1, 1) := by decide +kernel
theorem dL_areAlike_28 : decode cL_areAlike 28 = .ok (.goto 4, 3) := by decide +kernel
theorem dL_areAlike_31 : decode cL_areAlike 31 = .ok (.iconst 0, 1) := by decide +kernel
theorem dL_areAlike_32 : decode cL_areAlike 32 = .ok (.istore_n 2, 1) := by decide +kernel
theorem dL_areAlike_33 : decode cL_areAlike 33 = .ok (.iinc 3 1, 3) := by decide +kernel
theorem dL_areAlike_36 : decode cL_areAlike 36 = .ok (.goto (-32), 3) := by decide +kernel
theorem dL_areAlike_39 : decode cL_areAlike 39 = .ok (.iconst 0, 1) := by decide +kernel
theorem dL_areAlike_40 : decode cL_areAlike 40 = .ok (.istore_n 3, 1) := by decide +kernel
theorem dL_areAlike_41 : decode cL_areAlike 41 = .ok (.iload_n 3, 1) := by decide +kernel
theorem dL_areAlike_42 : decode cL_areAlike 42 = .ok (.bipush 24, 2) := by decide +kernel
theorem dL_areAlike_44 : decode cL_areAlike 44 = .ok (.if_icmp .ge 42, 3) := by decide +kernel
theorem dL_areAlike_47 : decode cL_areAlike 47 = .ok (.iload_n 2, 1) := by decide +kernel
theorem dL_areAlike_48 : decode cL_areAlike 48 = .ok (.ifCond .eq 30, 3) := by decide +kernel
theorem dL_areAlike_51 : decode cL_areAlike 51 = .ok (.aload_n 0, 1) := by decide +kernel
theorem dL_areAlike_52 : decode cL_areAlike 52 = .ok (.iload_n 3, 1) := by decide +kernel
theorem dL_areAlike_53 : decode cL_areAlike 53 = .ok (.iconst 3, 1) := by decide +kernel
theorem dL_areAlike_54 : decode cL_areAlike 54 = .ok (.idiv, 1) := by decide +kernel
theorem dL_areAlike_55 : decode cL_areAlike 55 = .ok (.iload_n 3, 1) := by decide +kernel
theorem dL_areAlike_56 : decode cL_areAlike 56 = .ok (.iconst 3, 1) := by decide +kernel
theorem dL_areAlike_57 : decode cL_areAlike 57 = .ok (.irem, 1) := by decide +kernel
theorem dL_areAlike_58 : decode cL_areAlike 58 = .ok (.invokevirtual 53, 3) := by decide +kernel
theorem dL_areAlike_61 : decode cL_areAlike 61 = .ok (.aload_n 1, 1) := by decide +kernel
theorem dL_areAlike_62 : decode cL_areAlike 62 = .ok (.iload_n 3, 1) := by decide +kernel
theorem dL_areAlike_63 : decode cL_areAlike 63 = .ok (.iconst 3, 1) := by decide +kernel
theorem dL_areAlike_64 : decode cL_areAlike 64 = .ok (.idiv, 1) := by decide +kernel
theorem dL_areAlike_65 : decode cL_areAlike 65 = .ok (.iload_n 3, 1) := by decide +kernel
theorem dL_areAlike_66 : decode cL_areAlike 66 = .ok (.iconst 3, 1) := by decide +kernel
theorem dL_areAlike_67 : decode cL_areAlike 67 = .ok (.irem, 1) := by decide +kernel
theorem dL_areAlike_68 : decode cL_areAlike 68 = .ok (.invokevirtual 53, 3) := by decide +kernel
theorem dL_areAlike_71 : decode cL_areAlike 71 = .ok (.if_icmp .ne 7, 3) := by decide +kernel
theorem dL_areAlike_74 : decode cL_areAlike 74 = .ok (.iconst 1, 1) := by decide +kernel
theorem dL_areAlike_75 : decode cL_areAlike 75 = .ok (.goto 4, 3) := by decide +kernel
theorem dL_areAlike_78 : decode cL_areAlike 78 = .ok (.iconst 0, 1) := by decide +kernel
theorem dL_areAlike_79 : decode cL_areAlike 79 = .ok (.istore_n 2, 1) := by decide +kernel
theorem dL_areAlike_80 : decode cL_areAlike 80 = .ok (.iinc 3 1, 3) := by decide +kernel
theorem dL_areAlike_83 : decode cL_areAlike 83 = .ok (.goto (-42), 3) := by decide +kernel
theorem dL_areAlike_86 : decode cL_areAlike 86 = .ok (.iconst 0, 1) := by decide +kernel
theorem dL_areAlike_87 : decode cL_areAlike 87 = .ok (.istore_n 3, 1) := by decide +kernel
theorem dL_areAlike_88 : decode cL_areAlike 88 = .ok (.iload_n 3, 1) := by decide +kernel
theorem dL_areAlike_89 : decode cL_areAlike 89 = .ok (.bipush 9, 2) := by decide +kernel
theorem dL_areAlike_91 : decode cL_areAlike 91 = .ok (.aload_n 0, 1) := by decide +kernel
theorem dL_areAlike_92 : decode cL_areAlike 92 = .ok (.iconst 0, 1) := by decide +kernel
theorem dL_areAlike_93 : decode cL_areAlike 93 = .ok (.invokevirtual 14, 3) := by decide +kernel
theorem dL_areAlike_96 : decode cL_areAlike 96 = .ok (.imul, 1) := by decide +kernel
theorem dL_areAlike_97 : decode cL_areAlike 97 = .ok (.if_icmp .ge 46, 3) := by decide +kernel
theorem dL_areAlike_100 : decode cL_areAlike 100 = .ok (.iload_n 2, 1) := by decide +kernel
theorem dL_areAlike_101 : decode cL_areAlike 101 = .ok (.ifCond .eq 34, 3) := by decide +kernel
theorem dL_areAlike_104 : decode cL_areAlike 104 = .ok (.aload_n 0, 1) := by decide +kernel
theorem dL_areAlike_105 : decode cL_areAlike 105 = .ok (.iload_n 3, 1) := by decide +kernel
theorem dL_areAlike_106 : decode cL_areAlike 106 = .ok (.bipush 9, 2) := by decide +kernel
theorem dL_areAlike_108 : decode cL_areAlike 108 = .ok (.idiv, 1) := by decide +kernel
theorem dL_areAlike_109 : decode cL_areAlike 109 = .ok (.iload_n 3, 1) := by decide +kernel
theorem dL_areAlike_110 : decode cL_areAlike 110 = .ok (.bipush 9, 2) := by decide +kernel
theorem dL_areAlike_112 : decode cL_areAlike 112 = .ok (.irem, 1) := by decide +kernel
theorem dL_areAlike_113 : decode cL_areAlike 113 = .ok (.invokevirtual 56, 3) := by decide +kernel
theorem dL_areAlike_116 : decode cL_areAlike 116 = .ok (.aload_n 1, 1) := by decide +kernel
theorem dL_areAlike_117 : decode cL_areAlike 117 = .ok (.iload_n 3, 1) := by decide +kernel
theorem dL_areAlike_118 : decode cL_areAlike 118 = .ok (.bipush 9, 2) := by decide +kernel
theorem dL_areAlike_120 : decode cL_areAlike 120 = .ok (.idiv, 1) := by decide +kernel
theorem dL_areAlike_121 : decode cL_areAlike 121 = .ok (.iload_n 3, 1) := by decide +kernel
theorem dL_areAlike_122 : decode cL_areAlike 122 = .ok (.bipush 9, 2) := by decide +kernel
theorem dL_areAlike_124 : decode cL_areAlike 124 = .ok (.irem, 1) := by decide +kernel
theorem dL_areAlike_125 : decode cL_areAlike 125 = .ok (.invokevirtual 56, 3) := by decide +kernel
theorem dL_areAlike_128 : decode cL_areAlike 128 = .ok (.if_icmp .ne 7, 3) := by decide +kernel
theorem dL_areAlike_131 : decode cL_areAlike 131 = .ok (.iconst 1, 1) := by decide +kernel
theorem dL_areAlike_132 : decode cL_areAlike 132 = .ok (.goto 4, 3) := by decide +kernel
theorem dL_areAlike_135 : decode cL_areAlike 135 = .ok (.iconst 0, 1) := by decide +kernel
theorem dL_areAlike_136 : decode cL_areAlike 136 = .ok (.istore_n 2, 1) := by decide +kernel
theorem dL_areAlike_137 : decode cL_areAlike 137 = .ok (.iinc 3 1, 3) := by decide +kernel
theorem dL_areAlike_140 : decode cL_areAlike 140 = .ok (.goto (-52), 3) := by decide +kernel
theorem dL_areAlike_143 : decode cL_areAlike 143 = .ok (.iconst 0, 1) := by decide +kernel
theorem dL_areAlike_144 : decode cL_areAlike 144 = .ok (.istore_n 3, 1) := by decide +kernel
theorem dL_areAlike_145 : decode cL_areAlike 145 = .ok (.iload_n 3, 1) := by decide +kernel
theorem dL_areAlike_146 : decode cL_areAlike 146 = .ok (.bipush 48, 2) := by decide +kernel
theorem dL_areAlike_148 : decode cL_areAlike 148 = .ok (.if_icmp .ge 46, 3) := by decide +kernel
theorem dL_areAlike_151 : decode cL_areAlike 151 = .ok (.iload_n 2, 1) := by decide +kernel
theorem dL_areAlike_152 : decode cL_areAlike 152 = .ok (.ifCond .eq 34, 3) := by decide +kernel
theorem dL_areAlike_155 : decode cL_areAlike 155 = .ok (.aload_n 0, 1) := by decide +kernel
theorem dL_areAlike_156 : decode cL_areAlike 156 = .ok (.iload_n 3, 1) := by decide +kernel
theorem dL_areAlike_157 : decode cL_areAlike 157 = .ok (.bipush 8, 2) := by decide +kernel
theorem dL_areAlike_159 : decode cL_areAlike 159 = .ok (.idiv, 1) := by decide +kernel
theorem dL_areAlike_160 : decode cL_areAlike 160 = .ok (.iload_n 3, 1) := by decide +kernel
theorem dL_areAlike_161 : decode cL_areAlike 161 = .ok (.bipush 8, 2) := by decide +kernel
theorem dL_areAlike_163 : decode cL_areAlike 163 = .ok (.irem, 1) := by decide +kernel
theorem dL_areAlike_164 : decode cL_areAlike 164 = .ok (.invokevirtual 59, 3) := by decide +kernel
theorem dL_areAlike_167 : decode cL_areAlike 167 = .ok (.aload_n 1, 1) := by decide +kernel
theorem dL_areAlike_168 : decode cL_areAlike 168 = .ok (.iload_n 3, 1) := by decide +kernel
theorem dL_areAlike_169 : decode cL_areAlike 169 = .ok (.bipush 8, 2) := by decide +kernel
theorem dL_areAlike_171 : decode cL_areAlike 171 = .ok (.idiv, 1) := by decide +kernel
theorem dL_areAlike_172 : decode cL_areAlike 172 = .ok (.iload_n 3, 1) := by decide +kernel
theorem dL_areAlike_173 : decode cL_areAlike 173 = .ok (.bipush 8, 2) := by decide +kernel
theorem dL_areAlike_175 : decode cL_areAlike 175 = .ok (.irem, 1) := by decide +kernel
theorem dL_areAlike_176 : decode cL_areAlike 176 = .ok (.invokevirtual 59, 3) := by decide +kernel
theorem dL_areAlike_179 : decode cL_areAlike 179 = .ok (.if_icmp .ne 7, 3) := by decide +kernel
theorem dL_areAlike_182 : decode cL_areAlike 182 = .ok (.iconst 1, 1) := by decide +kernel
theorem dL_areAlike_183 : decode cL_areAlike 183 = .ok (.goto 4, 3) := by decide +kernel
theorem dL_areAlike_186 : decode cL_areAlike 186 = .ok (.iconst 0, 1) := by decide +kernel
theorem dL_areAlike_187 : decode cL_areAlike 187 = .ok (.istore_n 2, 1) := by decide +kernel
theorem dL_areAlike_188 : decode cL_areAlike 188 = .ok (.iinc 3 1, 3) := by decide +kernel
theorem dL_areAlike_191 : decode cL_areAlike 191 = .ok (.goto (-46), 3) := by decide +kernel
theorem dL_areAlike_194 : decode cL_areAlike 194 = .ok (.iload_n 2, 1) := by decide +kernel
theorem dL_areAlike_195 : decode cL_areAlike 195 = .ok (.ireturn, 1) := by decide +kernel
theorem dL_areSums_0 : decode cL_areSums 0 = .ok (.iconst 0, 1) := by decide +kernel
theorem dL_areSums_1 : decode cL_areSums 1 = .ok (.istore_n 1, 1) := by decide +kernel
theorem dL_areSums_2 : decode cL_areSums 2 = .ok (.iconst 0, 1) := by decide +kernel
theorem dL_areSums_3 : decode cL_areSums 3 = .ok (.istore_n 2, 1) := by decide +kernel
theorem dL_areSums_4 : decode cL_areSums 4 = .ok (.iconst 0, 1) := by decide +kernel
theorem dL_areSums_5 : decode cL_areSums 5 = .ok (.istore_n 3, 1) := by decide +kernel
theorem dL_areSums_6 : decode cL_areSums 6 = .ok (.iconst 0, 1) := by decide +kernel
theorem dL_areSums_7 : decode cL_areSums 7 = .ok (.istore 4, 2) := by decide +kernel
theorem dL_areSums_9 : decode cL_areSums 9 = .ok (.iconst 0, 1) := by decide +kernel
theorem dL_areSums_10 : decode cL_areSums 10 = .ok (.istore 5, 2) := by decide +kernel
theorem dL_areSums_12 : decode cL_areSums 12 = .ok (.iconst 1, 1) := by decide +kernel
theorem dL_areSums_13 : decode cL_areSums 13 = .ok (.istore 6, 2) := by decide +kernel
theorem dL_areSums_15 : decode cL_areSums 15 = .ok (.iconst 0, 1) := by decide +kernel
theorem dL_areSums_16 : decode cL_areSums 16 = .ok (.istore 7, 2) := by decide +kernel
theorem dL_areSums_18 : decode cL_areSums 18 = .ok (.iload 7, 2) := by decide +kernel
theorem dL_areSums_20 : decode cL_areSums 20 = .ok (.aload_n 0, 1) := by decide +kernel
theorem dL_areSums_21 : decode cL_areSums 21 = .ok (.iconst 1, 1) := by decide +kernel
theorem dL_areSums_22 : decode cL_areSums 22 = .ok (.invokevirtual 14, 3) := by decide +kernel
theorem dL_areSums_25 : decode cL_areSums 25 = .ok (.if_icmp .ge 154, 3) := by decide +kernel
theorem dL_areSums_28 : decode cL_areSums 28 = .ok (.iload_n 1, 1) := by decide +kernel
theorem dL_areSums_29 : decode cL_areSums 29 = .ok (.aload_n 0, 1) := by decide +kernel
theorem dL_areSums_30 : decode cL_areSums 30 = .ok (.iload 7, 2) := by decide +kernel
theorem dL_areSums_32 : decode cL_areSums 32 = .ok (.iconst 1, 1) := by decide +kernel
theorem dL_areSums_33 : decode cL_areSums 33 = .ok (.invokevirtual 59, 3) := by decide +kernel
theorem dL_areSums_36 : decode cL_areSums 36 = .ok (.iadd, 1) := by decide +kernel
theorem dL_areSums_37 : decode cL_areSums 37 = .ok (.istore_n 1, 1) := by decide +kernel
theorem dL_areSums_38 : decode cL_areSums 38 = .ok (.iload_n 2, 1) := by decide +kernel
theorem dL_areSums_39 : decode cL_areSums 39 = .ok (.aload_n 0, 1) := by decide +kernel
theorem dL_areSums_40 : decode cL_areSums 40 = .ok (.iload 7, 2) := by decide +kernel
theorem dL_areSums_42 : decode cL_areSums 42 = .ok (.iconst 2, 1) := by decide +kernel
theorem dL_areSums_43 : decode cL_areSums 43 = .ok (.invokevirtual 59, 3) := by decide +kernel
theorem dL_areSums_46 : decode cL_areSums 46 = .ok (.iadd, 1) := by decide +kernel
theorem dL_areSums_47 : decode cL_areSums 47 = .ok (.istore_n 2, 1) := by decide +kernel
theorem dL_areSums_48 : decode cL_areSums 48 = .ok (.iload_n 3, 1) := by decide +kernel
theorem dL_areSums_49 : decode cL_areSums 49 = .ok (.aload_n 0, 1) := by decide +kernel
theorem dL_areSums_50 : decode cL_areSums 50 = .ok (.iload 7, 2) := by decide +kernel
theorem dL_areSums_52 : decode cL_areSums 52 = .ok (.iconst 3, 1) := by decide +kernel
theorem dL_areSums_53 : decode cL_areSums 53 = .ok (.invokevirtual 59, 3) := by decide +kernel
theorem dL_areSums_56 : decode cL_areSums 56 = .ok (.aload_n 0, 1) := by decide +kernel
theorem dL_areSums_57 : decode cL_areSums 57 = .ok (.iload 7, 2) := by decide +kernel
theorem dL_areSums_59 : decode cL_areSums 59 = .ok (.iconst 4, 1) := by decide +kernel
theorem dL_areSums_60 : decode cL_areSums 60 = .ok (.invokevirtual 59, 3) := by decide +kernel
theorem dL_areSums_63 : decode cL_areSums 63 = .ok (.isub, 1) := by decide +kernel
theorem dL_areSums_64 : decode cL_areSums 64 = .ok (.aload_n 0, 1) := by decide +kernel
theorem dL_areSums_65 : decode cL_areSums 65 = .ok (.iload 7, 2) := by decide +kernel
theorem dL_areSums_67 : decode cL_areSums 67 = .ok (.iconst 5, 1) := by decide +kernel
theorem dL_areSums_68 : decode cL_areSums 68 = .ok (.invokevirtual 59, 3) := by decide +kernel
theorem dL_areSums_71 : decode cL_areSums 71 = .ok (.iadd, 1) := by decide +kernel
theorem dL_areSums_72 : decode cL_areSums 72 = .ok (.aload_n 0, 1) := by decide +kernel
theorem dL_areSums_73 : decode cL_areSums 73 = .ok (.iload 7, 2) := by decide +kernel
theorem dL_areSums_75 : decode cL_areSums 75 = .ok (.bipush 6, 2) := by decide +kernel
theorem dL_areSums_77 : decode cL_areSums 77 = .ok (.invokevirtual 59, 3) := by decide +kernel
theorem dL_areSums_80 : decode cL_areSums 80 = .ok (.iadd, 1) := by decide +kernel
theorem dL_areSums_81 : decode cL_areSums 81 = .ok (.iadd, 1) := by decide +kernel
theorem dL_areSums_82 : decode cL_areSums 82 = .ok (.istore_n 3, 1) := by decide +kernel
theorem dL_areSums_83 : decode cL_areSums 83 = .ok (.iload 4, 2) := by decide +kernel
theorem dL_areSums_85 : decode cL_areSums 85 = .ok (.aload_n 0, 1) := by decide +kernel
theorem dL_areSums_86 : decode cL_areSums 86 = .ok (.iload 7, 2) := by decide +kernel
theorem dL_areSums_88 : decode cL_areSums 88 = .ok (.bipush 7, 2) := by decide +kernel
theorem dL_areSums_90 : decode cL_areSums 90 = .ok (.invokevirtual 59, 3) := by decide +kernel
theorem dL_areSums_93 : decode cL_areSums 93 = .ok (.iadd, 1) := by decide +kernel
theorem dL_areSums_94 : decode cL_areSums 94 = .ok (.istore 4, 2) := by decide +kernel
theorem dL_areSums_96 : decode cL_areSums 96 = .ok (.iload 6, 2) := by decide +kernel
theorem dL_areSums_98 : decode cL_areSums 98 = .ok (.ifCond .eq 72, 3) := by decide +kernel
theorem dL_areSums_101 : decode cL_areSums 101 = .ok (.aload_n 0, 1) := by decide +kernel
theorem dL_areSums_102 : decode cL_areSums 102 = .ok (.iload 7, 2) := by decide +kernel
theorem dL_areSums_104 : decode cL_areSums 104 = .ok (.iconst 1, 1) := by decide +kernel
theorem dL_areSums_105 : decode cL_areSums 105 = .ok (.invokevirtual 59, 3) := by decide +kernel
theorem dL_areSums_108 : decode cL_areSums 108 = .ok (.ifCond .lt 62, 3) := by decide +kernel
theorem dL_areSums_111 : decode cL_areSums 111 = .ok (.aload_n 0, 1) := by decide +kernel
theorem dL_areSums_112 : decode cL_areSums 112 = .ok (.iload 7, 2) := by decide +kernel
theorem dL_areSums_114 : decode cL_areSums 114 = .ok (.iconst 1, 1) := by decide +kernel
theorem dL_areSums_115 : decode cL_areSums 115 = .ok (.invokevirtual 59, 3) := by decide +kernel
theorem dL_areSums_118 : decode cL_areSums 118 = .ok (.ldc 62, 2) := by decide +kernel
theorem dL_areSums_120 : decode cL_areSums 120 = .ok (.if_icmp .ge 50, 3) := by decide +kernel
theorem dL_areSums_123 : decode cL_areSums 123 = .ok (.aload_n 0, 1) := by decide +kernel
theorem dL_areSums_124 : decode cL_areSums 124 = .ok (.iload 7, 2) := by decide +kernel
theorem dL_areSums_126 : decode cL_areSums 126 = .ok (.iconst 2, 1) := by decide +kernel
theorem dL_areSums_127 : decode cL_areSums 127 = .ok (.invokevirtual 59, 3) := by decide +kernel
theorem dL_areSums_130 : decode cL_areSums 130 = .ok (.ifCond .lt 40, 3) := by decide +kernel
theorem dL_areSums_133 : decode cL_areSums 133 = .ok (.aload_n 0, 1) := by decide +kernel
theorem dL_areSums_134 : decode cL_areSums 134 = .ok (.iload 7, 2) := by decide +kernel
theorem dL_areSums_136 : decode cL_areSums 136 = .ok (.iconst 2, 1) := by decide +kernel
theorem dL_areSums_137 : decode cL_areSums 137 = .ok (.invokevirtual 59, 3) := by decide +kernel
theorem dL_areSums_140 : decode cL_areSums 140 = .ok (.bipush 100, 2) := by decide +kernel
theorem dL_areSums_142 : decode cL_areSums 142 = .ok (.if_icmp .ge 28, 3) := by decide +kernel
theorem dL_areSums_145 : decode cL_areSums 145 = .ok (.aload_n 0, 1) := by decide +kernel
theorem dL_areSums_146 : decode cL_areSums 146 = .ok (.aload_n 0, 1) := by decide +kernel
theorem dL_areSums_147 : decode cL_areSums 147 = .ok (.iload 7, 2) := by decide +kernel
theorem dL_areSums_149 : decode cL_areSums 149 = .ok (.iconst 0, 1) := by decide +kernel
theorem dL_areSums_150 : decode cL_areSums 150 = .ok (.invokevirtual 59, 3) := by decide +kernel
theorem dL_areSums_153 : decode cL_areSums 153 = .ok (.iconst 2, 1) := by decide +kernel
theorem dL_areSums_154 : decode cL_areSums 154 = .ok (.invokevirtual 53, 3) := by decide +kernel
theorem dL_areSums_157 : decode cL_areSums 157 = .ok (.iload 7, 2) := by decide +kernel
theorem dL_areSums_159 : decode cL_areSums 159 = .ok (.ishr, 1) := by decide +kernel
theorem dL_areSums_160 : decode cL_areSums 160 = .ok (.iconst 1, 1) := by decide +kernel
theorem dL_areSums_161 : decode cL_areSums 161 = .ok (.iand, 1) := by decide +kernel
theorem dL_areSums_162 : decode cL_areSums 162 = .ok (.iconst 1, 1) := by decide +kernel
theorem dL_areSums_163 : decode cL_areSums 163 = .ok (.if_icmp .ne 7, 3) := by decide +kernel
theorem dL_areSums_166 : decode cL_areSums 166 = .ok (.iconst 1, 1) := by decide +kernel
theorem dL_areSums_167 : decode cL_areSums 167 = .ok (.goto 4, 3) := by decide +kernel
theorem dL_areSums_170 : decode cL_areSums 170 = .ok (.iconst 0, 1) := by decide +kernel
theorem dL_areSums_171 : decode cL_areSums 171 = .ok (.istore 6, 2) := by decide +kernel
theorem dL_areSums_173 : decode cL_areSums 173 = .ok (.iinc 7 1, 3) := by decide +kernel
theorem dL_areSums_176 : decode cL_areSums 176 = .ok (.goto (-158), 3) := by decide +kernel
theorem dL_areSums_179 : decode cL_areSums 179 = .ok (.iconst 0, 1) := by decide +kernel
theorem dL_areSums_180 : decode cL_areSums 180 = .ok (.istore 7, 2) := by decide +kernel
theorem dL_areSums_182 : decode cL_areSums 182 = .ok (.iload 7, 2) := by decide +kernel
theorem dL_areSums_184 : decode cL_areSums 184 = .ok (.aload_n 0, 1) := by decide +kernel
theorem dL_areSums_185 : decode cL_areSums 185 = .ok (.iconst 0, 1) := by decide +kernel
theorem dL_areSums_186 : decode cL_areSums 186 = .ok (.invokevirtual 14, 3) := by decide +kernel
theorem dL_areSums_189 : decode cL_areSums 189 = .ok (.if_icmp .ge 132, 3) := by decide +kernel
theorem dL_areSums_192 : decode cL_areSums 192 = .ok (.aload_n 0, 1) := by decide +kernel
theorem dL_areSums_193 : decode cL_areSums 193 = .ok (.bipush 13, 2) := by decide +kernel
theorem dL_areSums_195 : decode cL_areSums 195 = .ok (.invokevirtual 14, 3) := by decide +kernel
theorem dL_areSums_198 : decode cL_areSums 198 = .ok (.aload_n 0, 1) := by decide +kernel
theorem dL_areSums_199 : decode cL_areSums 199 = .ok (.iload 7, 2) := by decide +kernel
theorem dL_areSums_201 : decode cL_areSums 201 = .ok (.iconst 3, 1) := by decide +kernel
theorem dL_areSums_202 : decode cL_areSums 202 = .ok (.invokevirtual 56, 3) := by decide +kernel
theorem dL_areSums_205 : decode cL_areSums 205 = .ok (.imul, 1) := by decide +kernel
theorem dL_areSums_206 : decode cL_areSums 206 = .ok (.istore 8, 2) := by decide +kernel
theorem dL_areSums_208 : decode cL_areSums 208 = .ok (.iload 5, 2) := by decide +kernel
theorem dL_areSums_210 : decode cL_areSums 210 = .ok (.aload_n 0, 1) := by decide +kernel
theorem dL_areSums_211 : decode cL_areSums 211 = .ok (.iload 7, 2) := by decide +kernel
theorem dL_areSums_213 : decode cL_areSums 213 = .ok (.iconst 3, 1) := by decide +kernel
theorem dL_areSums_214 : decode cL_areSums 214 = .ok (.invokevirtual 56, 3) := by decide +kernel
theorem dL_areSums_217 : decode cL_areSums 217 = .ok (.iadd, 1) := by decide +kernel
theorem dL_areSums_218 : decode cL_areSums 218 = .ok (.istore 5, 2) := by decide +kernel
theorem dL_areSums_220 : decode cL_areSums 220 = .ok (.iload 6, 2) := by decide +kernel
theorem dL_areSums_222 : decode cL_areSums 222 = .ok (.ifCond .eq 90, 3) := by decide +kernel
theorem dL_areSums_225 : decode cL_areSums 225 = .ok (.aload_n 0, 1) := by decide +kernel
theorem dL_areSums_226 : decode cL_areSums 226 = .ok (.iload 7, 2) := by decide +kernel
theorem dL_areSums_228 : decode cL_areSums 228 = .ok (.iconst 4, 1) := by decide +kernel
theorem dL_areSums_229 : decode cL_areSums 229 = .ok (.invokevirtual 56, 3) := by decide +kernel
theorem dL_areSums_232 : decode cL_areSums 232 = .ok (.iload 8, 2) := by decide +kernel
theorem dL_areSums_234 : decode cL_areSums 234 = .ok (.bipush 90, 2) := by decide +kernel
theorem dL_areSums_236 : decode cL_areSums 236 = .ok (.if_icmp .le 8, 3) := by decide +kernel
theorem dL_areSums_239 : decode cL_areSums 239 = .ok (.bipush 90, 2) := by decide +kernel
theorem dL_areSums_241 : decode cL_areSums 241 = .ok (.goto 5, 3) := by decide +kernel
theorem dL_areSums_244 : decode cL_areSums 244 = .ok (.iload 8, 2) := by decide +kernel
theorem dL_areSums_246 : decode cL_areSums 246 = .ok (.if_icmp .ne 66, 3) := by decide +kernel
theorem dL_areSums_249 : decode cL_areSums 249 = .ok (.aload_n 0, 1) := by decide +kernel
theorem dL_areSums_250 : decode cL_areSums 250 = .ok (.iload 7, 2) := by decide +kernel
theorem dL_areSums_252 : decode cL_areSums 252 = .ok (.iconst 0, 1) := by decide +kernel
theorem dL_areSums_253 : decode cL_areSums 253 = .ok (.invokevirtual 56, 3) := by decide +kernel
theorem dL_areSums_256 : decode cL_areSums 256 = .ok (.aload_n 0, 1) := by decide +kernel
theorem dL_areSums_257 : decode cL_areSums 257 = .ok (.iload 7, 2) := by decide +kernel
theorem dL_areSums_259 : decode cL_areSums 259 = .ok (.iconst 1, 1) := by decide +kernel
theorem dL_areSums_260 : decode cL_areSums 260 = .ok (.invokevirtual 56, 3) := by decide +kernel
theorem dL_areSums_263 : decode cL_areSums 263 = .ok (.if_icmp .eq 49, 3) := by decide +kernel
theorem dL_areSums_266 : decode cL_areSums 266 = .ok (.aload_n 0, 1) := by decide +kernel
theorem dL_areSums_267 : decode cL_areSums 267 = .ok (.aload_n 0, 1) := by decide +kernel
theorem dL_areSums_268 : decode cL_areSums 268 = .ok (.iload 7, 2) := by decide +kernel
theorem dL_areSums_270 : decode cL_areSums 270 = .ok (.iconst 0, 1) := by decide +kernel
theorem dL_areSums_271 : decode cL_areSums 271 = .ok (.invokevirtual 56, 3) := by decide +kernel
theorem dL_areSums_274 : decode cL_areSums 274 = .ok (.iconst 1, 1) := by decide +kernel
theorem dL_areSums_275 : decode cL_areSums 275 = .ok (.invokevirtual 53, 3) := by decide +kernel
theorem dL_areSums_278 : decode cL_areSums 278 = .ok (.iload 7, 2) := by decide +kernel
theorem dL_areSums_280 : decode cL_areSums 280 = .ok (.ishr, 1) := by decide +kernel
theorem dL_areSums_281 : decode cL_areSums 281 = .ok (.iconst 1, 1) := by decide +kernel
theorem dL_areSums_282 : decode cL_areSums 282 = .ok (.iand, 1) := by decide +kernel
theorem dL_areSums_283 : decode cL_areSums 283 = .ok (.iconst 1, 1) := by decide +kernel
theorem dL_areSums_284 : decode cL_areSums 284 = .ok (.if_icmp .ne 28, 3) := by decide +kernel
theorem dL_areSums_287 : decode cL_areSums 287 = .ok (.aload_n 0, 1) := by decide +kernel
theorem dL_areSums_288 : decode cL_areSums 288 = .ok (.aload_n 0, 1) := by decide +kernel
theorem dL_areSums_289 : decode cL_areSums 289 = .ok (.iload 7, 2) := by decide +kernel
theorem dL_areSums_291 : decode cL_areSums 291 = .ok (.iconst 1, 1) := by decide +kernel
theorem dL_areSums_292 : decode cL_areSums 292 = .ok (.invokevirtual 56, 3) := by decide +kernel
theorem dL_areSums_295 : decode cL_areSums 295 = .ok (.iconst 1, 1) := by decide +kernel
theorem dL_areSums_296 : decode cL_areSums 296 = .ok (.invokevirtual 53, 3) := by decide +kernel
theorem dL_areSums_299 : decode cL_areSums 299 = .ok (.iload 7, 2) := by decide +kernel
theorem dL_areSums_301 : decode cL_areSums 301 = .ok (.ishr, 1) := by decide +kernel
theorem dL_areSums_302 : decode cL_areSums 302 = .ok (.iconst 1, 1) := by decide +kernel
theorem dL_areSums_303 : decode cL_areSums 303 = .ok (.iand, 1) := by decide +kernel
theorem dL_areSums_304 : decode cL_areSums 304 = .ok (.iconst 1, 1) := by decide +kernel
theorem dL_areSums_305 : decode cL_areSums 305 = .ok (.if_icmp .ne 7, 3) := by decide +kernel
theorem dL_areSums_308 : decode cL_areSums 308 = .ok (.iconst 1, 1) := by decide +kernel
theorem dL_areSums_309 : decode cL_areSums 309 = .ok (.goto 4, 3) := by decide +kernel
theorem dL_areSums_312 : decode cL_areSums 312 = .ok (.iconst 0, 1) := by decide +kernel
theorem dL_areSums_313 : decode cL_areSums 313 = .ok (.istore 6, 2) := by decide +kernel
theorem dL_areSums_315 : decode cL_areSums 315 = .ok (.iinc 7 1, 3) := by decide +kernel
theorem dL_areSums_318 : decode cL_areSums 318 = .ok (.goto (-136), 3) := by decide +kernel
theorem dL_areSums_321 : decode cL_areSums 321 = .ok (.iload 6, 2) := by decide +kernel
theorem dL_areSums_323 : decode cL_areSums 323 = .ok (.ifCond .eq 92, 3) := by decide +kernel
theorem dL_areSums_326 : decode cL_areSums 326 = .ok (.iload_n 1, 1) := by decide +kernel
theorem dL_areSums_327 : decode cL_areSums 327 = .ok (.aload_n 0, 1) := by decide +kernel
theorem dL_areSums_328 : decode cL_areSums 328 = .ok (.bipush 9, 2) := by decide +kernel
theorem dL_areSums_330 : decode cL_areSums 330 = .ok (.invokevirtual 14, 3) := by decide +kernel
theorem dL_areSums_333 : decode cL_areSums 333 = .ok (.if_icmp .ne 82, 3) := by decide +kernel
theorem dL_areSums_336 : decode cL_areSums 336 = .ok (.iload_n 2, 1) := by decide +kernel
theorem dL_areSums_337 : decode cL_areSums 337 = .ok (.aload_n 0, 1) := by decide +kernel
theorem dL_areSums_338 : decode cL_areSums 338 = .ok (.iconst 3, 1) := by decide +kernel
theorem dL_areSums_339 : decode cL_areSums 339 = .ok (.invokevirtual 14, 3) := by decide +kernel
theorem dL_areSums_342 : decode cL_areSums 342 = .ok (.if_icmp .ne 73, 3) := by decide +kernel
theorem dL_areSums_345 : decode cL_areSums 345 = .ok (.iload 4, 2) := by decide +kernel
theorem dL_areSums_347 : decode cL_areSums 347 = .ok (.aload_n 0, 1) := by decide +kernel
theorem dL_areSums_348 : decode cL_areSums 348 = .ok (.bipush 6, 2) := by decide +kernel
theorem dL_areSums_350 : decode cL_areSums 350 = .ok (.invokevirtual 14, 3) := by decide +kernel
theorem dL_areSums_353 : decode cL_areSums 353 = .ok (.if_icmp .ne 62, 3) := by decide +kernel
theorem dL_areSums_356 : decode cL_areSums 356 = .ok (.iload_n 1, 1) := by decide +kernel
theorem dL_areSums_357 : decode cL_areSums 357 = .ok (.iload_n 3, 1) := by decide +kernel
theorem dL_areSums_358 : decode cL_areSums 358 = .ok (.iadd, 1) := by decide +kernel
theorem dL_areSums_359 : decode cL_areSums 359 = .ok (.aload_n 0, 1) := by decide +kernel
theorem dL_areSums_360 : decode cL_areSums 360 = .ok (.bipush 10, 2) := by decide +kernel
theorem dL_areSums_362 : decode cL_areSums 362 = .ok (.invokevirtual 14, 3) := by decide +kernel
theorem dL_areSums_365 : decode cL_areSums 365 = .ok (.if_icmp .ne 50, 3) := by decide +kernel
theorem dL_areSums_368 : decode cL_areSums 368 = .ok (.iload_n 2, 1) := by decide +kernel
theorem dL_areSums_369 : decode cL_areSums 369 = .ok (.aload_n 0, 1) := by decide +kernel
theorem dL_areSums_370 : decode cL_areSums 370 = .ok (.iconst 5, 1) := by decide +kernel
theorem dL_areSums_371 : decode cL_areSums 371 = .ok (.invokevirtual 14, 3) := by decide +kernel
theorem dL_areSums_374 : decode cL_areSums 374 = .ok (.iadd, 1) := by decide +kernel
theorem dL_areSums_375 : decode cL_areSums 375 = .ok (.aload_n 0, 1) := by decide +kernel
theorem dL_areSums_376 : decode cL_areSums 376 = .ok (.bipush 6, 2) := by decide +kernel
theorem dL_areSums_378 : decode cL_areSums 378 = .ok (.invokevirtual 14, 3) := by decide +kernel
theorem dL_areSums_381 : decode cL_areSums 381 = .ok (.iadd, 1) := by decide +kernel
theorem dL_areSums_382 : decode cL_areSums 382 = .ok (.aload_n 0, 1) := by decide +kernel
theorem dL_areSums_383 : decode cL_areSums 383 = .ok (.iconst 4, 1) := by decide +kernel
theorem dL_areSums_384 : decode cL_areSums 384 = .ok (.invokevirtual 14, 3) := by decide +kernel
theorem dL_areSums_387 : decode cL_areSums 387 = .ok (.if_icmp .ne 28, 3) := by decide +kernel
theorem dL_areSums_390 : decode cL_areSums 390 = .ok (.iload 5, 2) := by decide +kernel
theorem dL_areSums_392 : decode cL_areSums 392 = .ok (.aload_n 0, 1) := by decide +kernel
theorem dL_areSums_393 : decode cL_areSums 393 = .ok (.iconst 2, 1) := by decide +kernel
theorem dL_areSums_394 : decode cL_areSums 394 = .ok (.invokevirtual 14, 3) := by decide +kernel
theorem dL_areSums_397 : decode cL_areSums 397 = .ok (.if_icmp .ne 18, 3) := by decide +kernel
theorem dL_areSums_400 : decode cL_areSums 400 = .ok (.iload 5, 2) := by decide +kernel
theorem dL_areSums_402 : decode cL_areSums 402 = .ok (.aload_n 0, 1) := by decide +kernel
theorem dL_areSums_403 : decode cL_areSums 403 = .ok (.bipush 15, 2) := by decide +kernel
theorem dL_areSums_405 : decode cL_areSums 405 = .ok (.invokevirtual 14, 3) := by decide +kernel
theorem dL_areSums_408 : decode cL_areSums 408 = .ok (.if_icmp .gt 7, 3) := by decide +kernel
theorem dL_areSums_411 : decode cL_areSums 411 = .ok (.iconst 1, 1) := by decide +kernel
theorem dL_areSums_412 : decode cL_areSums 412 = .ok (.goto 4, 3) := by decide +kernel
theorem dL_areSums_415 : decode cL_areSums 415 = .ok (.iconst 0, 1) := by decide +kernel
theorem dL_areSums_416 : decode cL_areSums 416 = .ok (.istore 6, 2) := by decide +kernel
theorem dL_areSums_418 : decode cL_areSums 418 = .ok (.iload 6, 2) := by decide +kernel
theorem dL_areSums_420 : decode cL_areSums 420 = .ok (.ifCond .eq 27, 3) := by decide +kernel
theorem dL_areSums_423 : decode cL_areSums 423 = .ok (.aload_n 0, 1) := by decide +kernel
theorem dL_areSums_424 : decode cL_areSums 424 = .ok (.bipush 11, 2) := by decide +kernel
theorem dL_areSums_426 : decode cL_areSums 426 = .ok (.invokevirtual 14, 3) := by decide +kernel
theorem dL_areSums_429 : decode cL_areSums 429 = .ok (.ifCond .lt 18, 3) := by decide +kernel
theorem dL_areSums_432 : decode cL_areSums 432 = .ok (.aload_n 0, 1) := by decide +kernel
theorem dL_areSums_433 : decode cL_areSums 433 = .ok (.bipush 11, 2) := by decide +kernel
theorem dL_areSums_435 : decode cL_areSums 435 = .ok (.invokevirtual 14, 3) := by decide +kernel
theorem dL_areSums_438 : decode cL_areSums 438 = .ok (.ldc 63, 2) := by decide +kernel
theorem dL_areSums_440 : decode cL_areSums 440 = .ok (.if_icmp .ge 7, 3) := by decide +kernel
theorem dL_areSums_443 : decode cL_areSums 443 = .ok (.iconst 1, 1) := by decide +kernel
theorem dL_areSums_444 : decode cL_areSums 444 = .ok (.goto 4, 3) := by decide +kernel
theorem dL_areSums_447 : decode cL_areSums 447 = .ok (.iconst 0, 1) := by decide +kernel
theorem dL_areSums_448 : decode cL_areSums 448 = .ok (.ireturn, 1) := by decide +kernel
theorem dL_isWorthSo_0 : decode cL_isWorthSo 0 = .ok (.aload_n 0, 1) := by decide +kernel
theorem dL_isWorthSo_1 : decode cL_isWorthSo 1 = .ok (.iload_n 1, 1) := by decide +kernel
theorem dL_isWorthSo_2 : decode cL_isWorthSo 2 = .ok (.iconst 0, 1) := by decide +kernel
theorem dL_isWorthSo_3 : decode cL_isWorthSo 3 = .ok (.iconst 0, 1) := by decide +kernel
theorem dL_isWorthSo_4 : decode cL_isWorthSo 4 = .ok (.invokevirtual 64, 3) := by decide +kernel
theorem dL_isWorthSo_7 : decode cL_isWorthSo 7 = .ok (.aload_n 0, 1) := by decide +kernel
theorem dL_isWorthSo_8 : decode cL_isWorthSo 8 = .ok (.iload_n 1, 1) := by decide +kernel
theorem dL_isWorthSo_9 : decode cL_isWorthSo 9 = .ok (.iconst 0, 1) := by decide +kernel
theorem dL_isWorthSo_10 : decode cL_isWorthSo 10 = .ok (.invokevirtual 53, 3) := by decide +kernel
theorem dL_isWorthSo_13 : decode cL_isWorthSo 13 = .ok (.i2l, 1) := by decide +kernel
theorem dL_isWorthSo_14 : decode cL_isWorthSo 14 = .ok (.lcmp, 1) := by decide +kernel
theorem dL_isWorthSo_15 : decode cL_isWorthSo 15 = .ok (.ifCond .ne 25, 3) := by decide +kernel
theorem dL_isWorthSo_18 : decode cL_isWorthSo 18 = .ok (.aload_n 0, 1) := by decide +kernel
theorem dL_isWorthSo_19 : decode cL_isWorthSo 19 = .ok (.iload_n 1, 1) := by decide +kernel
theorem dL_isWorthSo_20 : decode cL_isWorthSo 20 = .ok (.iconst 0, 1) := by decide +kernel
theorem dL_isWorthSo_21 : decode cL_isWorthSo 21 = .ok (.iconst 1, 1) := by decide +kernel
theorem dL_isWorthSo_22 : decode cL_isWorthSo 22 = .ok (.invokevirtual 64, 3) := by decide +kernel
theorem dL_isWorthSo_25 : decode cL_isWorthSo 25 = .ok (.aload_n 0, 1) := by decide +kernel
theorem dL_isWorthSo_26 : decode cL_isWorthSo 26 = .ok (.iload_n 1, 1) := by decide +kernel
theorem dL_isWorthSo_27 : decode cL_isWorthSo 27 = .ok (.iconst 0, 1) := by decide +kernel
theorem dL_isWorthSo_28 : decode cL_isWorthSo 28 = .ok (.invokevirtual 53, 3) := by decide +kernel
theorem dL_isWorthSo_31 : decode cL_isWorthSo 31 = .ok (.i2l, 1) := by decide +kernel
theorem dL_isWorthSo_32 : decode cL_isWorthSo 32 = .ok (.lcmp, 1) := by decide +kernel
theorem dL_isWorthSo_33 : decode cL_isWorthSo 33 = .ok (.ifCond .ne 7, 3) := by decide +kernel
theorem dL_isWorthSo_36 : decode cL_isWorthSo 36 = .ok (.iconst 1, 1) := by decide +kernel
theorem dL_isWorthSo_37 : decode cL_isWorthSo 37 = .ok (.goto 4, 3) := by decide +kernel
theorem dL_isWorthSo_40 : decode cL_isWorthSo 40 = .ok (.iconst 0, 1) := by decide +kernel
theorem dL_isWorthSo_41 : decode cL_isWorthSo 41 = .ok (.istore_n 2, 1) := by decide +kernel
theorem dL_isWorthSo_42 : decode cL_isWorthSo 42 = .ok (.iconst 1, 1) := by decide +kernel
theorem dL_isWorthSo_43 : decode cL_isWorthSo 43 = .ok (.istore_n 3, 1) := by decide +kernel
theorem dL_isWorthSo_44 : decode cL_isWorthSo 44 = .ok (.iload_n 3, 1) := by decide +kernel
theorem dL_isWorthSo_45 : decode cL_isWorthSo 45 = .ok (.iconst 5, 1) := by decide +kernel
theorem dL_isWorthSo_46 : decode cL_isWorthSo 46 = .ok (.if_icmp .ge 85, 3) := by decide +kernel
theorem dL_isWorthSo_49 : decode cL_isWorthSo 49 = .ok (.iload_n 2, 1) := by decide +kernel
theorem dL_isWorthSo_50 : decode cL_isWorthSo 50 = .ok (.ifCond .eq 73, 3) := by decide +kernel
theorem dL_isWorthSo_53 : decode cL_isWorthSo 53 = .ok (.aload_n 0, 1) := by decide +kernel
theorem dL_isWorthSo_54 : decode cL_isWorthSo 54 = .ok (.iload_n 1, 1) := by decide +kernel
theorem dL_isWorthSo_55 : decode cL_isWorthSo 55 = .ok (.iload_n 3, 1) := by decide +kernel
theorem dL_isWorthSo_56 : decode cL_isWorthSo 56 = .ok (.iconst 1, 1) := by decide +kernel
theorem dL_isWorthSo_57 : decode cL_isWorthSo 57 = .ok (.invokevirtual 64, 3) := by decide +kernel
theorem dL_isWorthSo_60 : decode cL_isWorthSo 60 = .ok (.ldc2_w 68, 3) := by decide +kernel
theorem dL_isWorthSo_63 : decode cL_isWorthSo 63 = .ok (.aload_n 0, 1) := by decide +kernel
theorem dL_isWorthSo_64 : decode cL_isWorthSo 64 = .ok (.iload_n 1, 1) := by decide +kernel
theorem dL_isWorthSo_65 : decode cL_isWorthSo 65 = .ok (.iload_n 3, 1) := by decide +kernel
theorem dL_isWorthSo_66 : decode cL_isWorthSo 66 = .ok (.iconst 1, 1) := by decide +kernel
theorem dL_isWorthSo_67 : decode cL_isWorthSo 67 = .ok (.isub, 1) := by decide +kernel
theorem dL_isWorthSo_68 : decode cL_isWorthSo 68 = .ok (.iconst 1, 1) := by decide +kernel
theorem dL_isWorthSo_69 : decode cL_isWorthSo 69 = .ok (.invokevirtual 64, 3) := by decide +kernel
theorem dL_isWorthSo_72 : decode cL_isWorthSo 72 = .ok (.lmul, 1) := by decide +kernel
theorem dL_isWorthSo_73 : decode cL_isWorthSo 73 = .ok (.lcmp, 1) := by decide +kernel
theorem dL_isWorthSo_74 : decode cL_isWorthSo 74 = .ok (.ifCond .lt 49, 3) := by decide +kernel
theorem dL_isWorthSo_77 : decode cL_isWorthSo 77 = .ok (.aload_n 0, 1) := by decide +kernel
theorem dL_isWorthSo_78 : decode cL_isWorthSo 78 = .ok (.iload_n 1, 1) := by decide +kernel
theorem dL_isWorthSo_79 : decode cL_isWorthSo 79 = .ok (.iload_n 3, 1) := by decide +kernel
theorem dL_isWorthSo_80 : decode cL_isWorthSo 80 = .ok (.iconst 0, 1) := by decide +kernel
theorem dL_isWorthSo_81 : decode cL_isWorthSo 81 = .ok (.invokevirtual 64, 3) := by decide +kernel
theorem dL_isWorthSo_84 : decode cL_isWorthSo 84 = .ok (.aload_n 0, 1) := by decide +kernel
theorem dL_isWorthSo_85 : decode cL_isWorthSo 85 = .ok (.iload_n 1, 1) := by decide +kernel
theorem dL_isWorthSo_86 : decode cL_isWorthSo 86 = .ok (.iload_n 3, 1) := by decide +kernel
theorem dL_isWorthSo_87 : decode cL_isWorthSo 87 = .ok (.iconst 1, 1) := by decide +kernel
theorem dL_isWorthSo_88 : decode cL_isWorthSo 88 = .ok (.invokevirtual 64, 3) := by decide +kernel
theorem dL_isWorthSo_91 : decode cL_isWorthSo 91 = .ok (.lcmp, 1) := by decide +kernel
theorem dL_isWorthSo_92 : decode cL_isWorthSo 92 = .ok (.ifCond .lt 31, 3) := by decide +kernel
theorem dL_isWorthSo_95 : decode cL_isWorthSo 95 = .ok (.aload_n 0, 1) := by decide +kernel
theorem dL_isWorthSo_96 : decode cL_isWorthSo 96 = .ok (.iload_n 1, 1) := by decide +kernel
theorem dL_isWorthSo_97 : decode cL_isWorthSo 97 = .ok (.iload_n 3, 1) := by decide +kernel
theorem dL_isWorthSo_98 : decode cL_isWorthSo 98 = .ok (.iconst 0, 1) := by decide +kernel
theorem dL_isWorthSo_99 : decode cL_isWorthSo 99 = .ok (.invokevirtual 64, 3) := by decide +kernel
theorem dL_isWorthSo_102 : decode cL_isWorthSo 102 = .ok (.ldc2_w 68, 3) := by decide +kernel
theorem dL_isWorthSo_105 : decode cL_isWorthSo 105 = .ok (.aload_n 0, 1) := by decide +kernel
theorem dL_isWorthSo_106 : decode cL_isWorthSo 106 = .ok (.iload_n 1, 1) := by decide +kernel
theorem dL_isWorthSo_107 : decode cL_isWorthSo 107 = .ok (.iload_n 3, 1) := by decide +kernel
theorem dL_isWorthSo_108 : decode cL_isWorthSo 108 = .ok (.iconst 1, 1) := by decide +kernel
theorem dL_isWorthSo_109 : decode cL_isWorthSo 109 = .ok (.isub, 1) := by decide +kernel
theorem dL_isWorthSo_110 : decode cL_isWorthSo 110 = .ok (.iconst 0, 1) := by decide +kernel
theorem dL_isWorthSo_111 : decode cL_isWorthSo 111 = .ok (.invokevirtual 64, 3) := by decide +kernel
theorem dL_isWorthSo_114 : decode cL_isWorthSo 114 = .ok (.lmul, 1) := by decide +kernel
theorem dL_isWorthSo_115 : decode cL_isWorthSo 115 = .ok (.lcmp, 1) := by decide +kernel
theorem dL_isWorthSo_116 : decode cL_isWorthSo 116 = .ok (.ifCond .lt 7, 3) := by decide +kernel
theorem dL_isWorthSo_119 : decode cL_isWorthSo 119 = .ok (.iconst 1, 1) := by decide +kernel
theorem dL_isWorthSo_120 : decode cL_isWorthSo 120 = .ok (.goto 4, 3) := by decide +kernel
theorem dL_isWorthSo_123 : decode cL_isWorthSo 123 = .ok (.iconst 0, 1) := by decide +kernel
theorem dL_isWorthSo_124 : decode cL_isWorthSo 124 = .ok (.istore_n 2, 1) := by decide +kernel
theorem dL_isWorthSo_125 : decode cL_isWorthSo 125 = .ok (.iinc 3 1, 3) := by decide +kernel
theorem dL_isWorthSo_128 : decode cL_isWorthSo 128 = .ok (.goto (-84), 3) := by decide +kernel
theorem dL_isWorthSo_131 : decode cL_isWorthSo 131 = .ok (.aload_n 0, 1) := by decide +kernel
theorem dL_isWorthSo_132 : decode cL_isWorthSo 132 = .ok (.bipush 14, 2) := by decide +kernel
theorem dL_isWorthSo_134 : decode cL_isWorthSo 134 = .ok (.invokevirtual 14, 3) := by decide +kernel
theorem dL_isWorthSo_137 : decode cL_isWorthSo 137 = .ok (.istore_n 3, 1) := by decide +kernel
theorem dL_isWorthSo_138 : decode cL_isWorthSo 138 = .ok (.aload_n 0, 1) := by decide +kernel
theorem dL_isWorthSo_139 : decode cL_isWorthSo 139 = .ok (.iload_n 1, 1) := by decide +kernel
theorem dL_isWorthSo_140 : decode cL_isWorthSo 140 = .ok (.iload_n 3, 1) := by decide +kernel
theorem dL_isWorthSo_141 : decode cL_isWorthSo 141 = .ok (.iconst 0, 1) := by decide +kernel
theorem dL_isWorthSo_142 : decode cL_isWorthSo 142 = .ok (.invokevirtual 64, 3) := by decide +kernel
theorem dL_isWorthSo_145 : decode cL_isWorthSo 145 = .ok (.lstore 4, 2) := by decide +kernel
theorem dL_isWorthSo_147 : decode cL_isWorthSo 147 = .ok (.aload_n 0, 1) := by decide +kernel
theorem dL_isWorthSo_148 : decode cL_isWorthSo 148 = .ok (.iload_n 1, 1) := by decide +kernel
theorem dL_isWorthSo_149 : decode cL_isWorthSo 149 = .ok (.iconst 0, 1) := by decide +kernel
theorem dL_isWorthSo_150 : decode cL_isWorthSo 150 = .ok (.invokevirtual 70, 3) := by decide +kernel
theorem dL_isWorthSo_153 : decode cL_isWorthSo 153 = .ok (.istore 6, 2) := by decide +kernel
theorem dL_isWorthSo_155 : decode cL_isWorthSo 155 = .ok (.lconst 1, 1) := by decide +kernel
theorem dL_isWorthSo_156 : decode cL_isWorthSo 156 = .ok (.lstore 7, 2) := by decide +kernel
theorem dL_isWorthSo_158 : decode cL_isWorthSo 158 = .ok (.iconst 1, 1) := by decide +kernel
theorem dL_isWorthSo_159 : decode cL_isWorthSo 159 = .ok (.istore 9, 2) := by decide +kernel
theorem dL_isWorthSo_161 : decode cL_isWorthSo 161 = .ok (.iload 9, 2) := by decide +kernel
theorem dL_isWorthSo_163 : decode cL_isWorthSo 163 = .ok (.iload_n 3, 1) := by decide +kernel
theorem dL_isWorthSo_164 : decode cL_isWorthSo 164 = .ok (.if_icmp .ge 17, 3) := by decide +kernel
theorem dL_isWorthSo_167 : decode cL_isWorthSo 167 = .ok (.lload 7, 2) := by decide +kernel
theorem dL_isWorthSo_169 : decode cL_isWorthSo 169 = .ok (.ldc2_w 68, 3) := by decide +kernel
theorem dL_isWorthSo_172 : decode cL_isWorthSo 172 = .ok (.lmul, 1) := by decide +kernel
theorem dL_isWorthSo_173 : decode cL_isWorthSo 173 = .ok (.lstore 7, 2) := by decide +kernel
theorem dL_isWorthSo_175 : decode cL_isWorthSo 175 = .ok (.iinc 9 1, 3) := by decide +kernel
theorem dL_isWorthSo_178 : decode cL_isWorthSo 178 = .ok (.goto (-17), 3) := by decide +kernel
theorem dL_isWorthSo_181 : decode cL_isWorthSo 181 = .ok (.iload 6, 2) := by decide +kernel
theorem dL_isWorthSo_183 : decode cL_isWorthSo 183 = .ok (.bipush (-6), 2) := by decide +kernel
theorem dL_isWorthSo_185 : decode cL_isWorthSo 185 = .ok (.if_icmp .ne 44, 3) := by decide +kernel
theorem dL_isWorthSo_188 : decode cL_isWorthSo 188 = .ok (.iload_n 2, 1) := by decide +kernel
theorem dL_isWorthSo_189 : decode cL_isWorthSo 189 = .ok (.ifCond .eq 35, 3) := by decide +kernel
theorem dL_isWorthSo_192 : decode cL_isWorthSo 192 = .ok (.lload 4, 2) := by decide +kernel
theorem dL_isWorthSo_194 : decode cL_isWorthSo 194 = .ok (.ldc2_w 68, 3) := by decide +kernel
theorem dL_isWorthSo_197 : decode cL_isWorthSo 197 = .ok (.aload_n 0, 1) := by decide +kernel
theorem dL_isWorthSo_198 : decode cL_isWorthSo 198 = .ok (.iload_n 1, 1) := by decide +kernel
theorem dL_isWorthSo_199 : decode cL_isWorthSo 199 = .ok (.iload_n 3, 1) := by decide +kernel
theorem dL_isWorthSo_200 : decode cL_isWorthSo 200 = .ok (.iconst 1, 1) := by decide +kernel
theorem dL_isWorthSo_201 : decode cL_isWorthSo 201 = .ok (.isub, 1) := by decide +kernel
theorem dL_isWorthSo_202 : decode cL_isWorthSo 202 = .ok (.iconst 0, 1) := by decide +kernel
theorem dL_isWorthSo_203 : decode cL_isWorthSo 203 = .ok (.invokevirtual 64, 3) := by decide +kernel
theorem dL_isWorthSo_206 : decode cL_isWorthSo 206 = .ok (.lmul, 1) := by decide +kernel
theorem dL_isWorthSo_207 : decode cL_isWorthSo 207 = .ok (.lcmp, 1) := by decide +kernel
theorem dL_isWorthSo_208 : decode cL_isWorthSo 208 = .ok (.ifCond .ne 16, 3) := by decide +kernel
theorem dL_isWorthSo_211 : decode cL_isWorthSo 211 = .ok (.aload_n 0, 1) := by decide +kernel
theorem dL_isWorthSo_212 : decode cL_isWorthSo 212 = .ok (.iload_n 1, 1) := by decide +kernel
theorem dL_isWorthSo_213 : decode cL_isWorthSo 213 = .ok (.iconst 1, 1) := by decide +kernel
theorem dL_isWorthSo_214 : decode cL_isWorthSo 214 = .ok (.invokevirtual 70, 3) := by decide +kernel
theorem dL_isWorthSo_217 : decode cL_isWorthSo 217 = .ok (.ifCond .ne 7, 3) := by decide +kernel
theorem dL_isWorthSo_220 : decode cL_isWorthSo 220 = .ok (.iconst 1, 1) := by decide +kernel
theorem dL_isWorthSo_221 : decode cL_isWorthSo 221 = .ok (.goto 4, 3) := by decide +kernel
theorem dL_isWorthSo_224 : decode cL_isWorthSo 224 = .ok (.iconst 0, 1) := by decide +kernel
theorem dL_isWorthSo_225 : decode cL_isWorthSo 225 = .ok (.istore_n 2, 1) := by decide +kernel
theorem dL_isWorthSo_226 : decode cL_isWorthSo 226 = .ok (.goto 148, 3) := by decide +kernel
theorem dL_isWorthSo_229 : decode cL_isWorthSo 229 = .ok (.aload_n 0, 1) := by decide +kernel
theorem dL_isWorthSo_230 : decode cL_isWorthSo 230 = .ok (.iload 6, 2) := by decide +kernel
theorem dL_isWorthSo_232 : decode cL_isWorthSo 232 = .ok (.iconst 0, 1) := by decide +kernel
theorem dL_isWorthSo_233 : decode cL_isWorthSo 233 = .ok (.invokevirtual 56, 3) := by decide +kernel
theorem dL_isWorthSo_236 : decode cL_isWorthSo 236 = .ok (.iload_n 1, 1) := by decide +kernel
theorem dL_isWorthSo_237 : decode cL_isWorthSo 237 = .ok (.if_icmp .ne 13, 3) := by decide +kernel
theorem dL_isWorthSo_240 : decode cL_isWorthSo 240 = .ok (.aload_n 0, 1) := by decide +kernel
theorem dL_isWorthSo_241 : decode cL_isWorthSo 241 = .ok (.iload 6, 2) := by decide +kernel
theorem dL_isWorthSo_243 : decode cL_isWorthSo 243 = .ok (.iconst 1, 1) := by decide +kernel
theorem dL_isWorthSo_244 : decode cL_isWorthSo 244 = .ok (.invokevirtual 56, 3) := by decide +kernel
theorem dL_isWorthSo_247 : decode cL_isWorthSo 247 = .ok (.goto 10, 3) := by decide +kernel
theorem dL_isWorthSo_250 : decode cL_isWorthSo 250 = .ok (.aload_n 0, 1) := by decide +kernel
theorem dL_isWorthSo_251 : decode cL_isWorthSo 251 = .ok (.iload 6, 2) := by decide +kernel
theorem dL_isWorthSo_253 : decode cL_isWorthSo 253 = .ok (.iconst 0, 1) := by decide +kernel
theorem dL_isWorthSo_254 : decode cL_isWorthSo 254 = .ok (.invokevirtual 56, 3) := by decide +kernel
theorem dL_isWorthSo_257 : decode cL_isWorthSo 257 = .ok (.istore 9, 2) := by decide +kernel
theorem dL_isWorthSo_259 : decode cL_isWorthSo 259 = .ok (.aload_n 0, 1) := by decide +kernel
theorem dL_isWorthSo_260 : decode cL_isWorthSo 260 = .ok (.iload 9, 2) := by decide +kernel
theorem dL_isWorthSo_262 : decode cL_isWorthSo 262 = .ok (.iload_n 3, 1) := by decide +kernel
theorem dL_isWorthSo_263 : decode cL_isWorthSo 263 = .ok (.iconst 1, 1) := by decide +kernel
theorem dL_isWorthSo_264 : decode cL_isWorthSo 264 = .ok (.isub, 1) := by decide +kernel
theorem dL_isWorthSo_265 : decode cL_isWorthSo 265 = .ok (.iconst 0, 1) := by decide +kernel
theorem dL_isWorthSo_266 : decode cL_isWorthSo 266 = .ok (.invokevirtual 64, 3) := by decide +kernel
theorem dL_isWorthSo_269 : decode cL_isWorthSo 269 = .ok (.lstore 10, 2) := by decide +kernel
theorem dL_isWorthSo_271 : decode cL_isWorthSo 271 = .ok (.aload_n 0, 1) := by decide +kernel
theorem dL_isWorthSo_272 : decode cL_isWorthSo 272 = .ok (.iload 6, 2) := by decide +kernel
theorem dL_isWorthSo_274 : decode cL_isWorthSo 274 = .ok (.iconst 4, 1) := by decide +kernel
theorem dL_isWorthSo_275 : decode cL_isWorthSo 275 = .ok (.invokevirtual 56, 3) := by decide +kernel
theorem dL_isWorthSo_278 : decode cL_isWorthSo 278 = .ok (.i2l, 1) := by decide +kernel
theorem dL_isWorthSo_279 : decode cL_isWorthSo 279 = .ok (.lstore 12, 2) := by decide +kernel
theorem dL_isWorthSo_281 : decode cL_isWorthSo 281 = .ok (.iload_n 2, 1) := by decide +kernel
theorem dL_isWorthSo_282 : decode cL_isWorthSo 282 = .ok (.ifCond .eq 90, 3) := by decide +kernel
theorem dL_isWorthSo_285 : decode cL_isWorthSo 285 = .ok (.lload 4, 2) := by decide +kernel
theorem dL_isWorthSo_287 : decode cL_isWorthSo 287 = .ok (.ldc2_w 68, 3) := by decide +kernel
theorem dL_isWorthSo_290 : decode cL_isWorthSo 290 = .ok (.aload_n 0, 1) := by decide +kernel
theorem dL_isWorthSo_291 : decode cL_isWorthSo 291 = .ok (.iload_n 1, 1) := by decide +kernel
theorem dL_isWorthSo_292 : decode cL_isWorthSo 292 = .ok (.iload_n 3, 1) := by decide +kernel
theorem dL_isWorthSo_293 : decode cL_isWorthSo 293 = .ok (.iconst 1, 1) := by decide +kernel
theorem dL_isWorthSo_294 : decode cL_isWorthSo 294 = .ok (.isub, 1) := by decide +kernel
theorem dL_isWorthSo_295 : decode cL_isWorthSo 295 = .ok (.iconst 0, 1) := by decide +kernel
theorem dL_isWorthSo_296 : decode cL_isWorthSo 296 = .ok (.invokevirtual 64, 3) := by decide +kernel
theorem dL_isWorthSo_299 : decode cL_isWorthSo 299 = .ok (.lmul, 1) := by decide +kernel
theorem dL_isWorthSo_300 : decode cL_isWorthSo 300 = .ok (.lcmp, 1) := by decide +kernel
theorem dL_isWorthSo_301 : decode cL_isWorthSo 301 = .ok (.ifCond .le 71, 3) := by decide +kernel
theorem dL_isWorthSo_304 : decode cL_isWorthSo 304 = .ok (.lload 4, 2) := by decide +kernel
theorem dL_isWorthSo_306 : decode cL_isWorthSo 306 = .ok (.aload_n 0, 1) := by decide +kernel
theorem dL_isWorthSo_307 : decode cL_isWorthSo 307 = .ok (.iload_n 1, 1) := by decide +kernel
theorem dL_isWorthSo_308 : decode cL_isWorthSo 308 = .ok (.iconst 1, 1) := by decide +kernel
theorem dL_isWorthSo_309 : decode cL_isWorthSo 309 = .ok (.invokevirtual 70, 3) := by decide +kernel
theorem dL_isWorthSo_312 : decode cL_isWorthSo 312 = .ok (.iconst 1, 1) := by decide +kernel
theorem dL_isWorthSo_313 : decode cL_isWorthSo 313 = .ok (.if_icmp .ne 29, 3) := by decide +kernel
theorem dL_isWorthSo_316 : decode cL_isWorthSo 316 = .ok (.ldc2_w 68, 3) := by decide +kernel
theorem dL_isWorthSo_319 : decode cL_isWorthSo 319 = .ok (.lload 12, 2) := by decide +kernel
theorem dL_isWorthSo_321 : decode cL_isWorthSo 321 = .ok (.lsub, 1) := by decide +kernel
theorem dL_isWorthSo_322 : decode cL_isWorthSo 322 = .ok (.lload 10, 2) := by decide +kernel
theorem dL_isWorthSo_324 : decode cL_isWorthSo 324 = .ok (.lmul, 1) := by decide +kernel
theorem dL_isWorthSo_325 : decode cL_isWorthSo 325 = .ok (.lload 12, 2) := by decide +kernel
theorem dL_isWorthSo_327 : decode cL_isWorthSo 327 = .ok (.aload_n 0, 1) := by decide +kernel
theorem dL_isWorthSo_328 : decode cL_isWorthSo 328 = .ok (.bipush 12, 2) := by decide +kernel
theorem dL_isWorthSo_330 : decode cL_isWorthSo 330 = .ok (.invokevirtual 14, 3) := by decide +kernel
theorem dL_isWorthSo_333 : decode cL_isWorthSo 333 = .ok (.i2l, 1) := by decide +kernel
theorem dL_isWorthSo_334 : decode cL_isWorthSo 334 = .ok (.lmul, 1) := by decide +kernel
theorem dL_isWorthSo_335 : decode cL_isWorthSo 335 = .ok (.lload 7, 2) := by decide +kernel
theorem dL_isWorthSo_337 : decode cL_isWorthSo 337 = .ok (.lmul, 1) := by decide +kernel
theorem dL_isWorthSo_338 : decode cL_isWorthSo 338 = .ok (.lsub, 1) := by decide +kernel
theorem dL_isWorthSo_339 : decode cL_isWorthSo 339 = .ok (.goto 25, 3) := by decide +kernel
theorem dL_isWorthSo_342 : decode cL_isWorthSo 342 = .ok (.ldc2_w 68, 3) := by decide +kernel
theorem dL_isWorthSo_345 : decode cL_isWorthSo 345 = .ok (.lload 10, 2) := by decide +kernel
theorem dL_isWorthSo_347 : decode cL_isWorthSo 347 = .ok (.lmul, 1) := by decide +kernel
theorem dL_isWorthSo_348 : decode cL_isWorthSo 348 = .ok (.aload_n 0, 1) := by decide +kernel
theorem dL_isWorthSo_349 : decode cL_isWorthSo 349 = .ok (.iload 6, 2) := by decide +kernel
theorem dL_isWorthSo_351 : decode cL_isWorthSo 351 = .ok (.iconst 2, 1) := by decide +kernel
theorem dL_isWorthSo_352 : decode cL_isWorthSo 352 = .ok (.invokevirtual 56, 3) := by decide +kernel
theorem dL_isWorthSo_355 : decode cL_isWorthSo 355 = .ok (.i2l, 1) := by decide +kernel
theorem dL_isWorthSo_356 : decode cL_isWorthSo 356 = .ok (.ldc2_w 68, 3) := by decide +kernel
theorem dL_isWorthSo_359 : decode cL_isWorthSo 359 = .ok (.lmul, 1) := by decide +kernel
theorem dL_isWorthSo_360 : decode cL_isWorthSo 360 = .ok (.lload 7, 2) := by decide +kernel
theorem dL_isWorthSo_362 : decode cL_isWorthSo 362 = .ok (.lmul, 1) := by decide +kernel
theorem dL_isWorthSo_363 : decode cL_isWorthSo 363 = .ok (.lsub, 1) := by decide +kernel
theorem dL_isWorthSo_364 : decode cL_isWorthSo 364 = .ok (.lcmp, 1) := by decide +kernel
theorem dL_isWorthSo_365 : decode cL_isWorthSo 365 = .ok (.ifCond .ne 7, 3) := by decide +kernel
theorem dL_isWorthSo_368 : decode cL_isWorthSo 368 = .ok (.iconst 1, 1) := by decide +kernel
theorem dL_isWorthSo_369 : decode cL_isWorthSo 369 = .ok (.goto 4, 3) := by decide +kernel
theorem dL_isWorthSo_372 : decode cL_isWorthSo 372 = .ok (.iconst 0, 1) := by decide +kernel
theorem dL_isWorthSo_373 : decode cL_isWorthSo 373 = .ok (.istore_n 2, 1) := by decide +kernel
theorem dL_isWorthSo_374 : decode cL_isWorthSo 374 = .ok (.iload_n 2, 1) := by decide +kernel
theorem dL_isWorthSo_375 : decode cL_isWorthSo 375 = .ok (.ifCond .eq 62, 3) := by decide +kernel
theorem dL_isWorthSo_378 : decode cL_isWorthSo 378 = .ok (.aload_n 0, 1) := by decide +kernel
theorem dL_isWorthSo_379 : decode cL_isWorthSo 379 = .ok (.iload_n 1, 1) := by decide +kernel
theorem dL_isWorthSo_380 : decode cL_isWorthSo 380 = .ok (.iconst 3, 1) := by decide +kernel
theorem dL_isWorthSo_381 : decode cL_isWorthSo 381 = .ok (.invokevirtual 53, 3) := by decide +kernel
theorem dL_isWorthSo_384 : decode cL_isWorthSo 384 = .ok (.iconst 1, 1) := by decide +kernel
theorem dL_isWorthSo_385 : decode cL_isWorthSo 385 = .ok (.if_icmp .ne 7, 3) := by decide +kernel
theorem dL_isWorthSo_388 : decode cL_isWorthSo 388 = .ok (.iconst 1, 1) := by decide +kernel
theorem dL_isWorthSo_389 : decode cL_isWorthSo 389 = .ok (.goto 4, 3) := by decide +kernel
theorem dL_isWorthSo_392 : decode cL_isWorthSo 392 = .ok (.iconst 0, 1) := by decide +kernel
theorem dL_isWorthSo_393 : decode cL_isWorthSo 393 = .ok (.lload 4, 2) := by decide +kernel
theorem dL_isWorthSo_395 : decode cL_isWorthSo 395 = .ok (.aload_n 0, 1) := by decide +kernel
theorem dL_isWorthSo_396 : decode cL_isWorthSo 396 = .ok (.iload_n 1, 1) := by decide +kernel
theorem dL_isWorthSo_397 : decode cL_isWorthSo 397 = .ok (.iload_n 3, 1) := by decide +kernel
theorem dL_isWorthSo_398 : decode cL_isWorthSo 398 = .ok (.iconst 1, 1) := by decide +kernel
theorem dL_isWorthSo_399 : decode cL_isWorthSo 399 = .ok (.invokevirtual 64, 3) := by decide +kernel
theorem dL_isWorthSo_402 : decode cL_isWorthSo 402 = .ok (.lcmp, 1) := by decide +kernel
theorem dL_isWorthSo_403 : decode cL_isWorthSo 403 = .ok (.ifCond .le 7, 3) := by decide +kernel
theorem dL_isWorthSo_406 : decode cL_isWorthSo 406 = .ok (.iconst 1, 1) := by decide +kernel
theorem dL_isWorthSo_407 : decode cL_isWorthSo 407 = .ok (.goto 4, 3) := by decide +kernel
theorem dL_isWorthSo_410 : decode cL_isWorthSo 410 = .ok (.iconst 0, 1) := by decide +kernel
theorem dL_isWorthSo_411 : decode cL_isWorthSo 411 = .ok (.if_icmp .ne 26, 3) := by decide +kernel
theorem dL_isWorthSo_414 : decode cL_isWorthSo 414 = .ok (.aload_n 0, 1) := by decide +kernel
theorem dL_isWorthSo_415 : decode cL_isWorthSo 415 = .ok (.bipush 8, 2) := by decide +kernel
theorem dL_isWorthSo_417 : decode cL_isWorthSo 417 = .ok (.invokevirtual 14, 3) := by decide +kernel
theorem dL_isWorthSo_420 : decode cL_isWorthSo 420 = .ok (.iload_n 1, 1) := by decide +kernel
theorem dL_isWorthSo_421 : decode cL_isWorthSo 421 = .ok (.ishr, 1) := by decide +kernel
theorem dL_isWorthSo_422 : decode cL_isWorthSo 422 = .ok (.iconst 1, 1) := by decide +kernel
theorem dL_isWorthSo_423 : decode cL_isWorthSo 423 = .ok (.iand, 1) := by decide +kernel
theorem dL_isWorthSo_424 : decode cL_isWorthSo 424 = .ok (.aload_n 0, 1) := by decide +kernel
theorem dL_isWorthSo_425 : decode cL_isWorthSo 425 = .ok (.iload_n 1, 1) := by decide +kernel
theorem dL_isWorthSo_426 : decode cL_isWorthSo 426 = .ok (.iconst 3, 1) := by decide +kernel
theorem dL_isWorthSo_427 : decode cL_isWorthSo 427 = .ok (.invokevirtual 53, 3) := by decide +kernel
theorem dL_isWorthSo_430 : decode cL_isWorthSo 430 = .ok (.if_icmp .ne 7, 3) := by decide +kernel
theorem dL_isWorthSo_433 : decode cL_isWorthSo 433 = .ok (.iconst 1, 1) := by decide +kernel
theorem dL_isWorthSo_434 : decode cL_isWorthSo 434 = .ok (.goto 4, 3) := by decide +kernel
theorem dL_isWorthSo_437 : decode cL_isWorthSo 437 = .ok (.iconst 0, 1) := by decide +kernel
theorem dL_isWorthSo_438 : decode cL_isWorthSo 438 = .ok (.istore_n 2, 1) := by decide +kernel
theorem dL_isWorthSo_439 : decode cL_isWorthSo 439 = .ok (.iload_n 2, 1) := by decide +kernel
theorem dL_isWorthSo_440 : decode cL_isWorthSo 440 = .ok (.ifCond .eq 60, 3) := by decide +kernel
theorem dL_isWorthSo_443 : decode cL_isWorthSo 443 = .ok (.aload_n 0, 1) := by decide +kernel
theorem dL_isWorthSo_444 : decode cL_isWorthSo 444 = .ok (.bipush 7, 2) := by decide +kernel
theorem dL_isWorthSo_446 : decode cL_isWorthSo 446 = .ok (.invokevirtual 14, 3) := by decide +kernel
theorem dL_isWorthSo_449 : decode cL_isWorthSo 449 = .ok (.ifCond .eq 47, 3) := by decide +kernel
theorem dL_isWorthSo_452 : decode cL_isWorthSo 452 = .ok (.aload_n 0, 1) := by decide +kernel
theorem dL_isWorthSo_453 : decode cL_isWorthSo 453 = .ok (.iload_n 1, 1) := by decide +kernel
theorem dL_isWorthSo_454 : decode cL_isWorthSo 454 = .ok (.iconst 1, 1) := by decide +kernel
theorem dL_isWorthSo_455 : decode cL_isWorthSo 455 = .ok (.iconst 0, 1) := by decide +kernel
theorem dL_isWorthSo_456 : decode cL_isWorthSo 456 = .ok (.invokevirtual 64, 3) := by decide +kernel
theorem dL_isWorthSo_459 : decode cL_isWorthSo 459 = .ok (.ldc2_w 68, 3) := by decide +kernel
theorem dL_isWorthSo_462 : decode cL_isWorthSo 462 = .ok (.aload_n 0, 1) := by decide +kernel
theorem dL_isWorthSo_463 : decode cL_isWorthSo 463 = .ok (.iload_n 1, 1) := by decide +kernel
theorem dL_isWorthSo_464 : decode cL_isWorthSo 464 = .ok (.iconst 0, 1) := by decide +kernel
theorem dL_isWorthSo_465 : decode cL_isWorthSo 465 = .ok (.invokevirtual 53, 3) := by decide +kernel
theorem dL_isWorthSo_468 : decode cL_isWorthSo 468 = .ok (.i2l, 1) := by decide +kernel
theorem dL_isWorthSo_469 : decode cL_isWorthSo 469 = .ok (.lmul, 1) := by decide +kernel
theorem dL_isWorthSo_470 : decode cL_isWorthSo 470 = .ok (.lcmp, 1) := by decide +kernel
theorem dL_isWorthSo_471 : decode cL_isWorthSo 471 = .ok (.ifCond .ne 29, 3) := by decide +kernel
theorem dL_isWorthSo_474 : decode cL_isWorthSo 474 = .ok (.aload_n 0, 1) := by decide +kernel
theorem dL_isWorthSo_475 : decode cL_isWorthSo 475 = .ok (.iload_n 1, 1) := by decide +kernel
theorem dL_isWorthSo_476 : decode cL_isWorthSo 476 = .ok (.iconst 4, 1) := by decide +kernel
theorem dL_isWorthSo_477 : decode cL_isWorthSo 477 = .ok (.iconst 0, 1) := by decide +kernel
theorem dL_isWorthSo_478 : decode cL_isWorthSo 478 = .ok (.invokevirtual 64, 3) := by decide +kernel
theorem dL_isWorthSo_481 : decode cL_isWorthSo 481 = .ok (.ldc2_w 73, 3) := by decide +kernel
theorem dL_isWorthSo_484 : decode cL_isWorthSo 484 = .ok (.aload_n 0, 1) := by decide +kernel
theorem dL_isWorthSo_485 : decode cL_isWorthSo 485 = .ok (.iload_n 1, 1) := by decide +kernel
theorem dL_isWorthSo_486 : decode cL_isWorthSo 486 = .ok (.iconst 0, 1) := by decide +kernel
theorem dL_isWorthSo_487 : decode cL_isWorthSo 487 = .ok (.invokevirtual 53, 3) := by decide +kernel
theorem dL_isWorthSo_490 : decode cL_isWorthSo 490 = .ok (.i2l, 1) := by decide +kernel
theorem dL_isWorthSo_491 : decode cL_isWorthSo 491 = .ok (.lmul, 1) := by decide +kernel
theorem dL_isWorthSo_492 : decode cL_isWorthSo 492 = .ok (.lcmp, 1) := by decide +kernel
theorem dL_isWorthSo_493 : decode cL_isWorthSo 493 = .ok (.ifCond .ne 7, 3) := by decide +kernel
theorem dL_isWorthSo_496 : decode cL_isWorthSo 496 = .ok (.iconst 1, 1) := by decide +kernel
theorem dL_isWorthSo_497 : decode cL_isWorthSo 497 = .ok (.goto 4, 3) := by decide +kernel
theorem dL_isWorthSo_500 : decode cL_isWorthSo 500 = .ok (.iconst 0, 1) := by decide +kernel
theorem dL_isWorthSo_501 : decode cL_isWorthSo 501 = .ok (.ireturn, 1) := by decide +kernel
theorem dL_isHonestSo_0 : decode cL_isHonestSo 0 = .ok (.aload_n 0, 1) := by decide +kernel
theorem dL_isHonestSo_1 : decode cL_isHonestSo 1 = .ok (.invokevirtual 75, 3) := by decide +kernel
theorem dL_isHonestSo_4 : decode cL_isHonestSo 4 = .ok (.istore_n 2, 1) := by decide +kernel
theorem dL_isHonestSo_5 : decode cL_isHonestSo 5 = .ok (.aload_n 0, 1) := by decide +kernel
theorem dL_isHonestSo_6 : decode cL_isHonestSo 6 = .ok (.iload_n 1, 1) := by decide +kernel
theorem dL_isHonestSo_7 : decode cL_isHonestSo 7 = .ok (.invokevirtual 78, 3) := by decide +kernel
theorem dL_isHonestSo_10 : decode cL_isHonestSo 10 = .ok (.istore_n 3, 1) := by decide +kernel
theorem dL_isHonestSo_11 : decode cL_isHonestSo 11 = .ok (.aload_n 0, 1) := by decide +kernel
theorem dL_isHonestSo_12 : decode cL_isHonestSo 12 = .ok (.iload_n 1, 1) := by decide +kernel
theorem dL_isHonestSo_13 : decode cL_isHonestSo 13 = .ok (.iconst 0, 1) := by decide +kernel
theorem dL_isHonestSo_14 : decode cL_isHonestSo 14 = .ok (.invokevirtual 53, 3) := by decide +kernel
theorem dL_isHonestSo_17 : decode cL_isHonestSo 17 = .ok (.istore 4, 2) := by decide +kernel
theorem dL_isHonestSo_19 : decode cL_isHonestSo 19 = .ok (.aload_n 0, 1) := by decide +kernel
theorem dL_isHonestSo_20 : decode cL_isHonestSo 20 = .ok (.bipush 7, 2) := by decide +kernel
theorem dL_isHonestSo_22 : decode cL_isHonestSo 22 = .ok (.invokevirtual 14, 3) := by decide +kernel
theorem dL_isHonestSo_25 : decode cL_isHonestSo 25 = .ok (.iconst 1, 1) := by decide +kernel
theorem dL_isHonestSo_26 : decode cL_isHonestSo 26 = .ok (.if_icmp .ne 7, 3) := by decide +kernel
theorem dL_isHonestSo_29 : decode cL_isHonestSo 29 = .ok (.iconst 1, 1) := by decide +kernel
theorem dL_isHonestSo_30 : decode cL_isHonestSo 30 = .ok (.goto 4, 3) := by decide +kernel
theorem dL_isHonestSo_33 : decode cL_isHonestSo 33 = .ok (.iconst 0, 1) := by decide +kernel
theorem dL_isHonestSo_34 : decode cL_isHonestSo 34 = .ok (.istore 5, 2) := by decide +kernel
theorem dL_isHonestSo_36 : decode cL_isHonestSo 36 = .ok (.iload_n 2, 1) := by decide +kernel
theorem dL_isHonestSo_37 : decode cL_isHonestSo 37 = .ok (.ifCond .ne 7, 3) := by decide +kernel
theorem dL_isHonestSo_40 : decode cL_isHonestSo 40 = .ok (.iconst 1, 1) := by decide +kernel
theorem dL_isHonestSo_41 : decode cL_isHonestSo 41 = .ok (.goto 4, 3) := by decide +kernel
theorem dL_isHonestSo_44 : decode cL_isHonestSo 44 = .ok (.iconst 0, 1) := by decide +kernel
theorem dL_isHonestSo_45 : decode cL_isHonestSo 45 = .ok (.iload 5, 2) := by decide +kernel
theorem dL_isHonestSo_47 : decode cL_isHonestSo 47 = .ok (.if_icmp .ne 83, 3) := by decide +kernel
theorem dL_isHonestSo_50 : decode cL_isHonestSo 50 = .ok (.iload_n 3, 1) := by decide +kernel
theorem dL_isHonestSo_51 : decode cL_isHonestSo 51 = .ok (.ifCond .le 79, 3) := by decide +kernel
theorem dL_isHonestSo_54 : decode cL_isHonestSo 54 = .ok (.iload_n 3, 1) := by decide +kernel
theorem dL_isHonestSo_55 : decode cL_isHonestSo 55 = .ok (.sipush 1000, 3) := by decide +kernel
theorem dL_isHonestSo_58 : decode cL_isHonestSo 58 = .ok (.if_icmp .ge 72, 3) := by decide +kernel
theorem dL_isHonestSo_61 : decode cL_isHonestSo 61 = .ok (.iload 5, 2) := by decide +kernel
theorem dL_isHonestSo_63 : decode cL_isHonestSo 63 = .ok (.ifCond .eq 9, 3) := by decide +kernel
theorem dL_isHonestSo_66 : decode cL_isHonestSo 66 = .ok (.iload 4, 2) := by decide +kernel
theorem dL_isHonestSo_68 : decode cL_isHonestSo 68 = .ok (.iload_n 3, 1) := by decide +kernel
theorem dL_isHonestSo_69 : decode cL_isHonestSo 69 = .ok (.if_icmp .gt 61, 3) := by decide +kernel
theorem dL_isHonestSo_72 : decode cL_isHonestSo 72 = .ok (.aload_n 0, 1) := by decide +kernel
theorem dL_isHonestSo_73 : decode cL_isHonestSo 73 = .ok (.invokevirtual 49, 3) := by decide +kernel
theorem dL_isHonestSo_76 : decode cL_isHonestSo 76 = .ok (.iload_n 2, 1) := by decide +kernel
theorem dL_isHonestSo_77 : decode cL_isHonestSo 77 = .ok (.if_icmp .ne 53, 3) := by decide +kernel
theorem dL_isHonestSo_80 : decode cL_isHonestSo 80 = .ok (.aload_n 0, 1) := by decide +kernel
theorem dL_isHonestSo_81 : decode cL_isHonestSo 81 = .ok (.bipush 7, 2) := by decide +kernel
theorem dL_isHonestSo_83 : decode cL_isHonestSo 83 = .ok (.invokevirtual 14, 3) := by decide +kernel
theorem dL_isHonestSo_86 : decode cL_isHonestSo 86 = .ok (.iconst 1, 1) := by decide +kernel
theorem dL_isHonestSo_87 : decode cL_isHonestSo 87 = .ok (.if_icmp .ne 43, 3) := by decide +kernel
theorem dL_isHonestSo_90 : decode cL_isHonestSo 90 = .ok (.aload_n 0, 1) := by decide +kernel
theorem dL_isHonestSo_91 : decode cL_isHonestSo 91 = .ok (.invokevirtual 75, 3) := by decide +kernel
theorem dL_isHonestSo_94 : decode cL_isHonestSo 94 = .ok (.ifCond .ne 36, 3) := by decide +kernel
theorem dL_isHonestSo_97 : decode cL_isHonestSo 97 = .ok (.aload_n 0, 1) := by decide +kernel
theorem dL_isHonestSo_98 : decode cL_isHonestSo 98 = .ok (.iload_n 1, 1) := by decide +kernel
theorem dL_isHonestSo_99 : decode cL_isHonestSo 99 = .ok (.iconst 0, 1) := by decide +kernel
theorem dL_isHonestSo_100 : decode cL_isHonestSo 100 = .ok (.invokevirtual 53, 3) := by decide +kernel
theorem dL_isHonestSo_103 : decode cL_isHonestSo 103 = .ok (.iload 4, 2) := by decide +kernel
theorem dL_isHonestSo_105 : decode cL_isHonestSo 105 = .ok (.if_icmp .gt 25, 3) := by decide +kernel
theorem dL_isHonestSo_108 : decode cL_isHonestSo 108 = .ok (.aload_n 0, 1) := by decide +kernel
theorem dL_isHonestSo_109 : decode cL_isHonestSo 109 = .ok (.iload_n 1, 1) := by decide +kernel
theorem dL_isHonestSo_110 : decode cL_isHonestSo 110 = .ok (.iconst 0, 1) := by decide +kernel
theorem dL_isHonestSo_111 : decode cL_isHonestSo 111 = .ok (.invokevirtual 53, 3) := by decide +kernel
theorem dL_isHonestSo_114 : decode cL_isHonestSo 114 = .ok (.ifCond .le 16, 3) := by decide +kernel
theorem dL_isHonestSo_117 : decode cL_isHonestSo 117 = .ok (.aload_n 0, 1) := by decide +kernel
theorem dL_isHonestSo_118 : decode cL_isHonestSo 118 = .ok (.bipush 8, 2) := by decide +kernel
theorem dL_isHonestSo_120 : decode cL_isHonestSo 120 = .ok (.invokevirtual 14, 3) := by decide +kernel
theorem dL_isHonestSo_123 : decode cL_isHonestSo 123 = .ok (.ifCond .lt 7, 3) := by decide +kernel
theorem dL_isHonestSo_126 : decode cL_isHonestSo 126 = .ok (.iconst 1, 1) := by decide +kernel
theorem dL_isHonestSo_127 : decode cL_isHonestSo 127 = .ok (.goto 4, 3) := by decide +kernel
theorem dL_isHonestSo_130 : decode cL_isHonestSo 130 = .ok (.iconst 0, 1) := by decide +kernel
theorem dL_isHonestSo_131 : decode cL_isHonestSo 131 = .ok (.istore 6, 2) := by decide +kernel
theorem dL_isHonestSo_133 : decode cL_isHonestSo 133 = .ok (.iconst 0, 1) := by decide +kernel
theorem dL_isHonestSo_134 : decode cL_isHonestSo 134 = .ok (.istore 7, 2) := by decide +kernel
theorem dL_isHonestSo_136 : decode cL_isHonestSo 136 = .ok (.iload 7, 2) := by decide +kernel
theorem dL_isHonestSo_138 : decode cL_isHonestSo 138 = .ok (.bipush 8, 2) := by decide +kernel
theorem dL_isHonestSo_140 : decode cL_isHonestSo 140 = .ok (.if_icmp .ge 37, 3) := by decide +kernel
theorem dL_isHonestSo_143 : decode cL_isHonestSo 143 = .ok (.iload 6, 2) := by decide +kernel
theorem dL_isHonestSo_145 : decode cL_isHonestSo 145 = .ok (.ifCond .eq 23, 3) := by decide +kernel
theorem dL_isHonestSo_148 : decode cL_isHonestSo 148 = .ok (.aload_n 0, 1) := by decide +kernel
theorem dL_isHonestSo_149 : decode cL_isHonestSo 149 = .ok (.iload 7, 2) := by decide +kernel
theorem dL_isHonestSo_151 : decode cL_isHonestSo 151 = .ok (.invokevirtual 78, 3) := by decide +kernel
theorem dL_isHonestSo_154 : decode cL_isHonestSo 154 = .ok (.aload_n 0, 1) := by decide +kernel
theorem dL_isHonestSo_155 : decode cL_isHonestSo 155 = .ok (.iload 7, 2) := by decide +kernel
theorem dL_isHonestSo_157 : decode cL_isHonestSo 157 = .ok (.iconst 0, 1) := by decide +kernel
theorem dL_isHonestSo_158 : decode cL_isHonestSo 158 = .ok (.invokevirtual 53, 3) := by decide +kernel
theorem dL_isHonestSo_161 : decode cL_isHonestSo 161 = .ok (.if_icmp .lt 7, 3) := by decide +kernel
theorem dL_isHonestSo_164 : decode cL_isHonestSo 164 = .ok (.iconst 1, 1) := by decide +kernel
theorem dL_isHonestSo_165 : decode cL_isHonestSo 165 = .ok (.goto 4, 3) := by decide +kernel
theorem dL_isHonestSo_168 : decode cL_isHonestSo 168 = .ok (.iconst 0, 1) := by decide +kernel
theorem dL_isHonestSo_169 : decode cL_isHonestSo 169 = .ok (.istore 6, 2) := by decide +kernel
theorem dL_isHonestSo_171 : decode cL_isHonestSo 171 = .ok (.iinc 7 1, 3) := by decide +kernel
theorem dL_isHonestSo_174 : decode cL_isHonestSo 174 = .ok (.goto (-38), 3) := by decide +kernel
theorem dL_isHonestSo_177 : decode cL_isHonestSo 177 = .ok (.iconst 0, 1) := by decide +kernel
theorem dL_isHonestSo_178 : decode cL_isHonestSo 178 = .ok (.istore 7, 2) := by decide +kernel
theorem dL_isHonestSo_180 : decode cL_isHonestSo 180 = .ok (.iload 7, 2) := by decide +kernel
theorem dL_isHonestSo_182 : decode cL_isHonestSo 182 = .ok (.aload_n 0, 1) := by decide +kernel
theorem dL_isHonestSo_183 : decode cL_isHonestSo 183 = .ok (.iconst 0, 1) := by decide +kernel
theorem dL_isHonestSo_184 : decode cL_isHonestSo 184 = .ok (.invokevirtual 14, 3) := by decide +kernel
theorem dL_isHonestSo_187 : decode cL_isHonestSo 187 = .ok (.if_icmp .ge 69, 3) := by decide +kernel
theorem dL_isHonestSo_190 : decode cL_isHonestSo 190 = .ok (.aload_n 0, 1) := by decide +kernel
theorem dL_isHonestSo_191 : decode cL_isHonestSo 191 = .ok (.iload 7, 2) := by decide +kernel
theorem dL_isHonestSo_193 : decode cL_isHonestSo 193 = .ok (.invokevirtual 81, 3) := by decide +kernel
theorem dL_isHonestSo_196 : decode cL_isHonestSo 196 = .ok (.istore 8, 2) := by decide +kernel
theorem dL_isHonestSo_198 : decode cL_isHonestSo 198 = .ok (.iload 6, 2) := by decide +kernel
theorem dL_isHonestSo_200 : decode cL_isHonestSo 200 = .ok (.ifCond .eq 47, 3) := by decide +kernel
theorem dL_isHonestSo_203 : decode cL_isHonestSo 203 = .ok (.aload_n 0, 1) := by decide +kernel
theorem dL_isHonestSo_204 : decode cL_isHonestSo 204 = .ok (.iload 7, 2) := by decide +kernel
theorem dL_isHonestSo_206 : decode cL_isHonestSo 206 = .ok (.iconst 5, 1) := by decide +kernel
theorem dL_isHonestSo_207 : decode cL_isHonestSo 207 = .ok (.invokevirtual 56, 3) := by decide +kernel
theorem dL_isHonestSo_210 : decode cL_isHonestSo 210 = .ok (.iconst 1, 1) := by decide +kernel
theorem dL_isHonestSo_211 : decode cL_isHonestSo 211 = .ok (.if_icmp .ne 36, 3) := by decide +kernel
theorem dL_isHonestSo_214 : decode cL_isHonestSo 214 = .ok (.aload_n 0, 1) := by decide +kernel
theorem dL_isHonestSo_215 : decode cL_isHonestSo 215 = .ok (.iload 7, 2) := by decide +kernel
theorem dL_isHonestSo_217 : decode cL_isHonestSo 217 = .ok (.bipush 6, 2) := by decide +kernel
theorem dL_isHonestSo_219 : decode cL_isHonestSo 219 = .ok (.invokevirtual 56, 3) := by decide +kernel
theorem dL_isHonestSo_222 : decode cL_isHonestSo 222 = .ok (.iconst 1, 1) := by decide +kernel
theorem dL_isHonestSo_223 : decode cL_isHonestSo 223 = .ok (.if_icmp .ne 24, 3) := by decide +kernel
theorem dL_isHonestSo_226 : decode cL_isHonestSo 226 = .ok (.iload 8, 2) := by decide +kernel
theorem dL_isHonestSo_228 : decode cL_isHonestSo 228 = .ok (.ifCond .lt 19, 3) := by decide +kernel
theorem dL_isHonestSo_231 : decode cL_isHonestSo 231 = .ok (.iload 8, 2) := by decide +kernel
theorem dL_isHonestSo_233 : decode cL_isHonestSo 233 = .ok (.aload_n 0, 1) := by decide +kernel
theorem dL_isHonestSo_234 : decode cL_isHonestSo 234 = .ok (.iload 7, 2) := by decide +kernel
theorem dL_isHonestSo_236 : decode cL_isHonestSo 236 = .ok (.iconst 3, 1) := by decide +kernel
theorem dL_isHonestSo_237 : decode cL_isHonestSo 237 = .ok (.invokevirtual 56, 3) := by decide +kernel
theorem dL_isHonestSo_240 : decode cL_isHonestSo 240 = .ok (.if_icmp .gt 7, 3) := by decide +kernel
theorem dL_isHonestSo_243 : decode cL_isHonestSo 243 = .ok (.iconst 1, 1) := by decide +kernel
theorem dL_isHonestSo_244 : decode cL_isHonestSo 244 = .ok (.goto 4, 3) := by decide +kernel
theorem dL_isHonestSo_247 : decode cL_isHonestSo 247 = .ok (.iconst 0, 1) := by decide +kernel
theorem dL_isHonestSo_248 : decode cL_isHonestSo 248 = .ok (.istore 6, 2) := by decide +kernel
theorem dL_isHonestSo_250 : decode cL_isHonestSo 250 = .ok (.iinc 7 1, 3) := by decide +kernel
theorem dL_isHonestSo_253 : decode cL_isHonestSo 253 = .ok (.goto (-73), 3) := by decide +kernel
theorem dL_isHonestSo_256 : decode cL_isHonestSo 256 = .ok (.iload 6, 2) := by decide +kernel
theorem dL_isHonestSo_258 : decode cL_isHonestSo 258 = .ok (.ifCond .eq 45, 3) := by decide +kernel
theorem dL_isHonestSo_261 : decode cL_isHonestSo 261 = .ok (.aload_n 0, 1) := by decide +kernel
theorem dL_isHonestSo_262 : decode cL_isHonestSo 262 = .ok (.invokevirtual 84, 3) := by decide +kernel
theorem dL_isHonestSo_265 : decode cL_isHonestSo 265 = .ok (.ifCond .lt 38, 3) := by decide +kernel
theorem dL_isHonestSo_268 : decode cL_isHonestSo 268 = .ok (.aload_n 0, 1) := by decide +kernel
theorem dL_isHonestSo_269 : decode cL_isHonestSo 269 = .ok (.iload_n 1, 1) := by decide +kernel
theorem dL_isHonestSo_270 : decode cL_isHonestSo 270 = .ok (.iconst 0, 1) := by decide +kernel
theorem dL_isHonestSo_271 : decode cL_isHonestSo 271 = .ok (.invokevirtual 53, 3) := by decide +kernel
theorem dL_isHonestSo_274 : decode cL_isHonestSo 274 = .ok (.iload 4, 2) := by decide +kernel
theorem dL_isHonestSo_276 : decode cL_isHonestSo 276 = .ok (.if_icmp .ne 27, 3) := by decide +kernel
theorem dL_isHonestSo_279 : decode cL_isHonestSo 279 = .ok (.aload_n 0, 1) := by decide +kernel
theorem dL_isHonestSo_280 : decode cL_isHonestSo 280 = .ok (.bipush 7, 2) := by decide +kernel
theorem dL_isHonestSo_282 : decode cL_isHonestSo 282 = .ok (.invokevirtual 14, 3) := by decide +kernel
theorem dL_isHonestSo_285 : decode cL_isHonestSo 285 = .ok (.iconst 1, 1) := by decide +kernel
theorem dL_isHonestSo_286 : decode cL_isHonestSo 286 = .ok (.if_icmp .ne 7, 3) := by decide +kernel
theorem dL_isHonestSo_289 : decode cL_isHonestSo 289 = .ok (.iconst 1, 1) := by decide +kernel
theorem dL_isHonestSo_290 : decode cL_isHonestSo 290 = .ok (.goto 4, 3) := by decide +kernel
theorem dL_isHonestSo_293 : decode cL_isHonestSo 293 = .ok (.iconst 0, 1) := by decide +kernel
theorem dL_isHonestSo_294 : decode cL_isHonestSo 294 = .ok (.iload 5, 2) := by decide +kernel
theorem dL_isHonestSo_296 : decode cL_isHonestSo 296 = .ok (.if_icmp .ne 7, 3) := by decide +kernel
theorem dL_isHonestSo_299 : decode cL_isHonestSo 299 = .ok (.iconst 1, 1) := by decide +kernel
theorem dL_isHonestSo_300 : decode cL_isHonestSo 300 = .ok (.goto 4, 3) := by decide +kernel
theorem dL_isHonestSo_303 : decode cL_isHonestSo 303 = .ok (.iconst 0, 1) := by decide +kernel
theorem dL_isHonestSo_304 : decode cL_isHonestSo 304 = .ok (.ireturn, 1) := by decide +kernel
theorem dL_law_0 : decode cL_law 0 = .ok (.new 15, 3) := by decide +kernel
theorem dL_law_3 : decode cL_law 3 = .ok (.dup, 1) := by decide +kernel
theorem dL_law_4 : decode cL_law 4 = .ok (.invokespecial 87, 3) := by decide +kernel
theorem dL_law_7 : decode cL_law 7 = .ok (.astore_n 1, 1) := by decide +kernel
theorem dL_law_8 : decode cL_law 8 = .ok (.new 15, 3) := by decide +kernel
theorem dL_law_11 : decode cL_law 11 = .ok (.dup, 1) := by decide +kernel
theorem dL_law_12 : decode cL_law 12 = .ok (.invokespecial 87, 3) := by decide +kernel
theorem dL_law_15 : decode cL_law 15 = .ok (.astore_n 2, 1) := by decide +kernel
theorem dL_law_16 : decode cL_law 16 = .ok (.iconst 0, 1) := by decide +kernel
theorem dL_law_17 : decode cL_law 17 = .ok (.istore_n 3, 1) := by decide +kernel
theorem dL_law_18 : decode cL_law 18 = .ok (.iload_n 3, 1) := by decide +kernel
theorem dL_law_19 : decode cL_law 19 = .ok (.bipush 46, 2) := by decide +kernel
theorem dL_law_21 : decode cL_law 21 = .ok (.if_icmp .ge 228, 3) := by decide +kernel
theorem dL_law_24 : decode cL_law 24 = .ok (.iload_n 3, 1) := by decide +kernel
theorem dL_law_25 : decode cL_law 25 = .ok (.iconst 3, 1) := by decide +kernel
theorem dL_law_26 : decode cL_law 26 = .ok (.if_icmp .ge 14, 3) := by decide +kernel
theorem dL_law_29 : decode cL_law 29 = .ok (.aload_n 0, 1) := by decide +kernel
theorem dL_law_30 : decode cL_law 30 = .ok (.iload_n 3, 1) := by decide +kernel
theorem dL_law_31 : decode cL_law 31 = .ok (.invokestatic 88, 3) := by decide +kernel
theorem dL_law_34 : decode cL_law 34 = .ok (.bipush (-16), 2) := by decide +kernel
theorem dL_law_36 : decode cL_law 36 = .ok (.iand, 1) := by decide +kernel
theorem dL_law_37 : decode cL_law 37 = .ok (.goto 24, 3) := by decide +kernel
theorem dL_law_40 : decode cL_law 40 = .ok (.iload_n 3, 1) := by decide +kernel
theorem dL_law_41 : decode cL_law 41 = .ok (.iconst 5, 1) := by decide +kernel
theorem dL_law_42 : decode cL_law 42 = .ok (.if_icmp .ge 14, 3) := by decide +kernel
theorem dL_law_45 : decode cL_law 45 = .ok (.aload_n 0, 1) := by decide +kernel
theorem dL_law_46 : decode cL_law 46 = .ok (.iload_n 3, 1) := by decide +kernel
theorem dL_law_47 : decode cL_law 47 = .ok (.invokestatic 88, 3) := by decide +kernel
theorem dL_law_50 : decode cL_law 50 = .ok (.bipush 7, 2) := by decide +kernel
theorem dL_law_52 : decode cL_law 52 = .ok (.ior, 1) := by decide +kernel
theorem dL_law_53 : decode cL_law 53 = .ok (.goto 8, 3) := by decide +kernel
theorem dL_law_56 : decode cL_law 56 = .ok (.aload_n 0, 1) := by decide +kernel
theorem dL_law_57 : decode cL_law 57 = .ok (.iload_n 3, 1) := by decide +kernel
theorem dL_law_58 : decode cL_law 58 = .ok (.invokestatic 88, 3) := by decide +kernel
theorem dL_law_61 : decode cL_law 61 = .ok (.istore 4, 2) := by decide +kernel
theorem dL_law_63 : decode cL_law 63 = .ok (.aload_n 1, 1) := by decide +kernel
theorem dL_law_64 : decode cL_law 64 = .ok (.bipush 17, 2) := by decide +kernel
theorem dL_law_66 : decode cL_law 66 = .ok (.invokevirtual 14, 3) := by decide +kernel
theorem dL_law_69 : decode cL_law 69 = .ok (.istore 5, 2) := by decide +kernel
theorem dL_law_71 : decode cL_law 71 = .ok (.aload_n 1, 1) := by decide +kernel
theorem dL_law_72 : decode cL_law 72 = .ok (.iload 4, 2) := by decide +kernel
theorem dL_law_74 : decode cL_law 74 = .ok (.invokestatic 92, 3) := by decide +kernel
theorem dL_law_77 : decode cL_law 77 = .ok (.istore 6, 2) := by decide +kernel
theorem dL_law_79 : decode cL_law 79 = .ok (.iload 6, 2) := by decide +kernel
theorem dL_law_81 : decode cL_law 81 = .ok (.ifCond .ge 24, 3) := by decide +kernel
theorem dL_law_84 : decode cL_law 84 = .ok (.aload_n 1, 1) := by decide +kernel
theorem dL_law_85 : decode cL_law 85 = .ok (.aload_n 2, 1) := by decide +kernel
theorem dL_law_86 : decode cL_law 86 = .ok (.invokestatic 96, 3) := by decide +kernel
theorem dL_law_89 : decode cL_law 89 = .ok (.ifCond .eq 14, 3) := by decide +kernel
theorem dL_law_92 : decode cL_law 92 = .ok (.aload_n 1, 1) := by decide +kernel
theorem dL_law_93 : decode cL_law 93 = .ok (.bipush 17, 2) := by decide +kernel
theorem dL_law_95 : decode cL_law 95 = .ok (.invokevirtual 14, 3) := by decide +kernel
theorem dL_law_98 : decode cL_law 98 = .ok (.iload 5, 2) := by decide +kernel
theorem dL_law_100 : decode cL_law 100 = .ok (.if_icmp .eq 5, 3) := by decide +kernel
theorem dL_law_103 : decode cL_law 103 = .ok (.iconst 0, 1) := by decide +kernel
theorem dL_law_104 : decode cL_law 104 = .ok (.ireturn, 1) := by decide +kernel
theorem dL_law_105 : decode cL_law 105 = .ok (.iload 6, 2) := by decide +kernel
theorem dL_law_107 : decode cL_law 107 = .ok (.ifCond .lt 58, 3) := by decide +kernel
theorem dL_law_110 : decode cL_law 110 = .ok (.iload 4, 2) := by decide +kernel
theorem dL_law_112 : decode cL_law 112 = .ok (.bipush 9, 2) := by decide +kernel
theorem dL_law_114 : decode cL_law 114 = .ok (.ishr, 1) := by decide +kernel
theorem dL_law_115 : decode cL_law 115 = .ok (.iconst 1, 1) := by decide +kernel
theorem dL_law_116 : decode cL_law 116 = .ok (.iand, 1) := by decide +kernel
theorem dL_law_117 : decode cL_law 117 = .ok (.ifCond .ne 48, 3) := by decide +kernel
theorem dL_law_120 : decode cL_law 120 = .ok (.aload_n 1, 1) := by decide +kernel
theorem dL_law_121 : decode cL_law 121 = .ok (.invokevirtual 84, 3) := by decide +kernel
theorem dL_law_124 : decode cL_law 124 = .ok (.istore 7, 2) := by decide +kernel
theorem dL_law_126 : decode cL_law 126 = .ok (.iload 7, 2) := by decide +kernel
theorem dL_law_128 : decode cL_law 128 = .ok (.iload 5, 2) := by decide +kernel
theorem dL_law_130 : decode cL_law 130 = .ok (.bipush 6, 2) := by decide +kernel
theorem dL_law_132 : decode cL_law 132 = .ok (.if_icmp .ne 7, 3) := by decide +kernel
theorem dL_law_135 : decode cL_law 135 = .ok (.iconst 5, 1) := by decide +kernel
theorem dL_law_136 : decode cL_law 136 = .ok (.goto 5, 3) := by decide +kernel
theorem dL_law_139 : decode cL_law 139 = .ok (.iload 5, 2) := by decide +kernel
theorem dL_law_141 : decode cL_law 141 = .ok (.if_icmp .ne 22, 3) := by decide +kernel
theorem dL_law_144 : decode cL_law 144 = .ok (.aload_n 1, 1) := by decide +kernel
theorem dL_law_145 : decode cL_law 145 = .ok (.aload_n 2, 1) := by decide +kernel
theorem dL_law_146 : decode cL_law 146 = .ok (.invokestatic 96, 3) := by decide +kernel
theorem dL_law_149 : decode cL_law 149 = .ok (.ifCond .eq 14, 3) := by decide +kernel
theorem dL_law_152 : decode cL_law 152 = .ok (.aload_n 1, 1) := by decide +kernel
theorem dL_law_153 : decode cL_law 153 = .ok (.iload 4, 2) := by decide +kernel
theorem dL_law_155 : decode cL_law 155 = .ok (.invokestatic 92, 3) := by decide +kernel
theorem dL_law_158 : decode cL_law 158 = .ok (.iload 6, 2) := by decide +kernel
theorem dL_law_160 : decode cL_law 160 = .ok (.if_icmp .eq 5, 3) := by decide +kernel
theorem dL_law_163 : decode cL_law 163 = .ok (.iconst 0, 1) := by decide +kernel
theorem dL_law_164 : decode cL_law 164 = .ok (.ireturn, 1) := by decide +kernel
theorem dL_law_165 : decode cL_law 165 = .ok (.aload_n 2, 1) := by decide +kernel
theorem dL_law_166 : decode cL_law 166 = .ok (.iload 4, 2) := by decide +kernel
theorem dL_law_168 : decode cL_law 168 = .ok (.invokestatic 92, 3) := by decide +kernel
theorem dL_law_171 : decode cL_law 171 = .ok (.iload 6, 2) := by decide +kernel
theorem dL_law_173 : decode cL_law 173 = .ok (.if_icmp .ne 11, 3) := by decide +kernel
theorem dL_law_176 : decode cL_law 176 = .ok (.aload_n 1, 1) := by decide +kernel
theorem dL_law_177 : decode cL_law 177 = .ok (.aload_n 2, 1) := by decide +kernel
theorem dL_law_178 : decode cL_law 178 = .ok (.invokestatic 96, 3) := by decide +kernel
theorem dL_law_181 : decode cL_law 181 = .ok (.ifCond .ne 5, 3) := by decide +kernel
theorem dL_law_184 : decode cL_law 184 = .ok (.iconst 0, 1) := by decide +kernel
theorem dL_law_185 : decode cL_law 185 = .ok (.ireturn, 1) := by decide +kernel
theorem dL_law_186 : decode cL_law 186 = .ok (.iload_n 3, 1) := by decide +kernel
theorem dL_law_187 : decode cL_law 187 = .ok (.iconst 4, 1) := by decide +kernel
theorem dL_law_188 : decode cL_law 188 = .ok (.irem, 1) := by decide +kernel
theorem dL_law_189 : decode cL_law 189 = .ok (.iconst 3, 1) := by decide +kernel
theorem dL_law_190 : decode cL_law 190 = .ok (.if_icmp .ne 53, 3) := by decide +kernel
theorem dL_law_193 : decode cL_law 193 = .ok (.aload_n 1, 1) := by decide +kernel
theorem dL_law_194 : decode cL_law 194 = .ok (.invokestatic 100, 3) := by decide +kernel
theorem dL_law_197 : decode cL_law 197 = .ok (.ifCond .eq 44, 3) := by decide +kernel
theorem dL_law_200 : decode cL_law 200 = .ok (.aload_n 1, 1) := by decide +kernel
theorem dL_law_201 : decode cL_law 201 = .ok (.iload 4, 2) := by decide +kernel
theorem dL_law_203 : decode cL_law 203 = .ok (.iconst 5, 1) := by decide +kernel
theorem dL_law_204 : decode cL_law 204 = .ok (.ishr, 1) := by decide +kernel
theorem dL_law_205 : decode cL_law 205 = .ok (.bipush 8, 2) := by decide +kernel
theorem dL_law_207 : decode cL_law 207 = .ok (.invokestatic 8, 3) := by decide +kernel
theorem dL_law_210 : decode cL_law 210 = .ok (.invokestatic 104, 3) := by decide +kernel
theorem dL_law_213 : decode cL_law 213 = .ok (.ifCond .eq 28, 3) := by decide +kernel
theorem dL_law_216 : decode cL_law 216 = .ok (.aload_n 1, 1) := by decide +kernel
theorem dL_law_217 : decode cL_law 217 = .ok (.iload 4, 2) := by decide +kernel
theorem dL_law_219 : decode cL_law 219 = .ok (.bipush 7, 2) := by decide +kernel
theorem dL_law_221 : decode cL_law 221 = .ok (.ishr, 1) := by decide +kernel
theorem dL_law_222 : decode cL_law 222 = .ok (.bipush 8, 2) := by decide +kernel
theorem dL_law_224 : decode cL_law 224 = .ok (.invokestatic 8, 3) := by decide +kernel
theorem dL_law_227 : decode cL_law 227 = .ok (.invokestatic 108, 3) := by decide +kernel
theorem dL_law_230 : decode cL_law 230 = .ok (.ifCond .eq 11, 3) := by decide +kernel
theorem dL_law_233 : decode cL_law 233 = .ok (.aload_n 1, 1) := by decide +kernel
theorem dL_law_234 : decode cL_law 234 = .ok (.aload_n 2, 1) := by decide +kernel
theorem dL_law_235 : decode cL_law 235 = .ok (.invokestatic 96, 3) := by decide +kernel
theorem dL_law_238 : decode cL_law 238 = .ok (.ifCond .ne 5, 3) := by decide +kernel
theorem dL_law_241 : decode cL_law 241 = .ok (.iconst 0, 1) := by decide +kernel
theorem dL_law_242 : decode cL_law 242 = .ok (.ireturn, 1) := by decide +kernel
theorem dL_law_243 : decode cL_law 243 = .ok (.iinc 3 1, 3) := by decide +kernel
theorem dL_law_246 : decode cL_law 246 = .ok (.goto (-228), 3) := by decide +kernel
theorem dL_law_249 : decode cL_law 249 = .ok (.aload_n 1, 1) := by decide +kernel
theorem dL_law_250 : decode cL_law 250 = .ok (.invokestatic 100, 3) := by decide +kernel
theorem dL_law_253 : decode cL_law 253 = .ok (.ireturn, 1) := by decide +kernel
