theorem d_Law_around_0 : decode b_Law_around 0 = .ok (.aload_n 2, 1) := by decide +kernel
theorem d_Law_around_1 : decode b_Law_around 1 = .ok (.iconst 0, 1) := by decide +kernel
theorem d_Law_around_2 : decode b_Law_around 2 = .ok (.aload_n 0, 1) := by decide +kernel
theorem d_Law_around_3 : decode b_Law_around 3 = .ok (.iload_n 1, 1) := by decide +kernel
theorem d_Law_around_4 : decode b_Law_around 4 = .ok (.invokevirtual 45, 3) := by decide +kernel
theorem d_Law_around_7 : decode b_Law_around 7 = .ok (.ifCond .eq 7, 3) := by decide +kernel
theorem d_Law_around_10 : decode b_Law_around 10 = .ok (.lconst 1, 1) := by decide +kernel
theorem d_Law_around_11 : decode b_Law_around 11 = .ok (.goto 4, 3) := by decide +kernel
theorem d_Law_around_15 : decode b_Law_around 15 = .ok (.lastore, 1) := by decide +kernel
theorem d_Law_around_16 : decode b_Law_around 16 = .ok (.goto 6, 3) := by decide +kernel
theorem d_Law_around_19 : decode b_Law_around 19 = .ok (.astore_n 3, 1) := by decide +kernel
theorem d_Law_around_20 : decode b_Law_around 20 = .ok (.iconst 1, 1) := by decide +kernel
theorem d_Law_around_21 : decode b_Law_around 21 = .ok (.ireturn, 1) := by decide +kernel
theorem d_Law_around_22 : decode b_Law_around 22 = .ok (.iconst 0, 1) := by decide +kernel
theorem d_Law_around_23 : decode b_Law_around 23 = .ok (.ireturn, 1) := by decide +kernel
theorem d_Law_at_0 : decode b_Law_at 0 = .ok (.aload_n 3, 1) := by decide +kernel
theorem d_Law_at_1 : decode b_Law_at 1 = .ok (.iconst 0, 1) := by decide +kernel
theorem d_Law_at_2 : decode b_Law_at 2 = .ok (.aload_n 0, 1) := by decide +kernel
theorem d_Law_at_3 : decode b_Law_at 3 = .ok (.iload_n 1, 1) := by decide +kernel
theorem d_Law_at_4 : decode b_Law_at 4 = .ok (.iload_n 2, 1) := by decide +kernel
theorem d_Law_at_5 : decode b_Law_at 5 = .ok (.invokevirtual 62, 3) := by decide +kernel
theorem d_Law_at_8 : decode b_Law_at 8 = .ok (.i2l, 1) := by decide +kernel
theorem d_Law_at_9 : decode b_Law_at 9 = .ok (.lastore, 1) := by decide +kernel
theorem d_Law_at_10 : decode b_Law_at 10 = .ok (.goto 7, 3) := by decide +kernel
theorem d_Law_at_13 : decode b_Law_at 13 = .ok (.astore 4, 2) := by decide +kernel
theorem d_Law_at_15 : decode b_Law_at 15 = .ok (.iconst 1, 1) := by decide +kernel
theorem d_Law_at_16 : decode b_Law_at 16 = .ok (.ireturn, 1) := by decide +kernel
theorem d_Law_at_17 : decode b_Law_at 17 = .ok (.iconst 0, 1) := by decide +kernel
theorem d_Law_at_18 : decode b_Law_at 18 = .ok (.ireturn, 1) := by decide +kernel
theorem d_Law_bridge_0 : decode b_Law_bridge 0 = .ok (.aload_n 2, 1) := by decide +kernel
theorem d_Law_bridge_1 : decode b_Law_bridge 1 = .ok (.iconst 0, 1) := by decide +kernel
theorem d_Law_bridge_2 : decode b_Law_bridge 2 = .ok (.aload_n 0, 1) := by decide +kernel
theorem d_Law_bridge_3 : decode b_Law_bridge 3 = .ok (.iload_n 1, 1) := by decide +kernel
theorem d_Law_bridge_4 : decode b_Law_bridge 4 = .ok (.invokevirtual 49, 3) := by decide +kernel
theorem d_Law_bridge_19 : decode b_Law_bridge 19 = .ok (.astore_n 3, 1) := by decide +kernel
theorem d_Law_bridge_20 : decode b_Law_bridge 20 = .ok (.iconst 1, 1) := by decide +kernel
theorem d_Law_bridge_21 : decode b_Law_bridge 21 = .ok (.ireturn, 1) := by decide +kernel
theorem d_Law_colour_0 : decode b_Law_colour 0 = .ok (.aload_n 2, 1) := by decide +kernel
theorem d_Law_colour_1 : decode b_Law_colour 1 = .ok (.iconst 0, 1) := by decide +kernel
theorem d_Law_colour_2 : decode b_Law_colour 2 = .ok (.aload_n 0, 1) := by decide +kernel
theorem d_Law_colour_3 : decode b_Law_colour 3 = .ok (.iload_n 1, 1) := by decide +kernel
theorem d_Law_colour_4 : decode b_Law_colour 4 = .ok (.invokevirtual 55, 3) := by decide +kernel
theorem d_Law_colour_12 : decode b_Law_colour 12 = .ok (.astore_n 3, 1) := by decide +kernel
theorem d_Law_colour_13 : decode b_Law_colour 13 = .ok (.iconst 1, 1) := by decide +kernel
theorem d_Law_colour_14 : decode b_Law_colour 14 = .ok (.ireturn, 1) := by decide +kernel
theorem d_Law_corner_0 : decode b_Law_corner 0 = .ok (.aload_n 2, 1) := by decide +kernel
theorem d_Law_corner_1 : decode b_Law_corner 1 = .ok (.iconst 0, 1) := by decide +kernel
theorem d_Law_corner_2 : decode b_Law_corner 2 = .ok (.aload_n 0, 1) := by decide +kernel
theorem d_Law_corner_3 : decode b_Law_corner 3 = .ok (.iload_n 1, 1) := by decide +kernel
theorem d_Law_corner_4 : decode b_Law_corner 4 = .ok (.invokevirtual 34, 3) := by decide +kernel
theorem d_Law_corner_12 : decode b_Law_corner 12 = .ok (.astore_n 3, 1) := by decide +kernel
theorem d_Law_corner_13 : decode b_Law_corner 13 = .ok (.iconst 1, 1) := by decide +kernel
theorem d_Law_corner_14 : decode b_Law_corner 14 = .ok (.ireturn, 1) := by decide +kernel
theorem d_Law_could_0 : decode b_Law_could 0 = .ok (.aload_n 3, 1) := by decide +kernel
theorem d_Law_could_1 : decode b_Law_could 1 = .ok (.iconst 0, 1) := by decide +kernel
theorem d_Law_could_2 : decode b_Law_could 2 = .ok (.aload_n 0, 1) := by decide +kernel
theorem d_Law_could_3 : decode b_Law_could 3 = .ok (.iload_n 1, 1) := by decide +kernel
theorem d_Law_could_4 : decode b_Law_could 4 = .ok (.iload_n 2, 1) := by decide +kernel
theorem d_Law_could_5 : decode b_Law_could 5 = .ok (.invokevirtual 41, 3) := by decide +kernel
theorem d_Law_could_20 : decode b_Law_could 20 = .ok (.astore 4, 2) := by decide +kernel
theorem d_Law_could_22 : decode b_Law_could 22 = .ok (.iconst 1, 1) := by decide +kernel
theorem d_Law_could_23 : decode b_Law_could 23 = .ok (.ireturn, 1) := by decide +kernel
theorem d_Law_cut_0 : decode b_Law_cut 0 = .ok (.aload_n 2, 1) := by decide +kernel
theorem d_Law_cut_1 : decode b_Law_cut 1 = .ok (.iconst 0, 1) := by decide +kernel
theorem d_Law_cut_2 : decode b_Law_cut 2 = .ok (.aload_n 0, 1) := by decide +kernel
theorem d_Law_cut_3 : decode b_Law_cut 3 = .ok (.iload_n 1, 1) := by decide +kernel
theorem d_Law_cut_4 : decode b_Law_cut 4 = .ok (.invokevirtual 25, 3) := by decide +kernel
theorem d_Law_cut_12 : decode b_Law_cut 12 = .ok (.astore_n 3, 1) := by decide +kernel
theorem d_Law_cut_13 : decode b_Law_cut 13 = .ok (.iconst 1, 1) := by decide +kernel
theorem d_Law_cut_14 : decode b_Law_cut 14 = .ok (.ireturn, 1) := by decide +kernel
theorem d_Law_drop_0 : decode b_Law_drop 0 = .ok (.aload_n 2, 1) := by decide +kernel
theorem d_Law_drop_1 : decode b_Law_drop 1 = .ok (.iconst 0, 1) := by decide +kernel
theorem d_Law_drop_2 : decode b_Law_drop 2 = .ok (.aload_n 0, 1) := by decide +kernel
theorem d_Law_drop_3 : decode b_Law_drop 3 = .ok (.iload_n 1, 1) := by decide +kernel
theorem d_Law_drop_4 : decode b_Law_drop 4 = .ok (.invokevirtual 28, 3) := by decide +kernel
theorem d_Law_drop_12 : decode b_Law_drop 12 = .ok (.astore_n 3, 1) := by decide +kernel
theorem d_Law_drop_13 : decode b_Law_drop 13 = .ok (.iconst 1, 1) := by decide +kernel
theorem d_Law_drop_14 : decode b_Law_drop 14 = .ok (.ireturn, 1) := by decide +kernel
theorem d_Law_end_0 : decode b_Law_end 0 = .ok (.aload_n 3, 1) := by decide +kernel
theorem d_Law_end_1 : decode b_Law_end 1 = .ok (.iconst 0, 1) := by decide +kernel
theorem d_Law_end_2 : decode b_Law_end 2 = .ok (.aload_n 0, 1) := by decide +kernel
theorem d_Law_end_3 : decode b_Law_end 3 = .ok (.iload_n 1, 1) := by decide +kernel
theorem d_Law_end_4 : decode b_Law_end 4 = .ok (.iload_n 2, 1) := by decide +kernel
theorem d_Law_end_5 : decode b_Law_end 5 = .ok (.invokevirtual 31, 3) := by decide +kernel
theorem d_Law_end_13 : decode b_Law_end 13 = .ok (.astore 4, 2) := by decide +kernel
theorem d_Law_end_15 : decode b_Law_end 15 = .ok (.iconst 1, 1) := by decide +kernel
theorem d_Law_end_16 : decode b_Law_end 16 = .ok (.ireturn, 1) := by decide +kernel
theorem d_Law_faces_0 : decode b_Law_faces 0 = .ok (.aload_n 1, 1) := by decide +kernel
theorem d_Law_faces_1 : decode b_Law_faces 1 = .ok (.iconst 0, 1) := by decide +kernel
theorem d_Law_faces_2 : decode b_Law_faces 2 = .ok (.aload_n 0, 1) := by decide +kernel
theorem d_Law_faces_3 : decode b_Law_faces 3 = .ok (.invokevirtual 37, 3) := by decide +kernel
theorem d_Law_faces_6 : decode b_Law_faces 6 = .ok (.i2l, 1) := by decide +kernel
theorem d_Law_faces_7 : decode b_Law_faces 7 = .ok (.lastore, 1) := by decide +kernel
theorem d_Law_faces_8 : decode b_Law_faces 8 = .ok (.goto 6, 3) := by decide +kernel
theorem d_Law_faces_14 : decode b_Law_faces 14 = .ok (.iconst 0, 1) := by decide +kernel
theorem d_Law_faces_15 : decode b_Law_faces 15 = .ok (.ireturn, 1) := by decide +kernel
theorem d_Law_hinge_0 : decode b_Law_hinge 0 = .ok (.aload_n 2, 1) := by decide +kernel
theorem d_Law_hinge_1 : decode b_Law_hinge 1 = .ok (.iconst 0, 1) := by decide +kernel
theorem d_Law_hinge_2 : decode b_Law_hinge 2 = .ok (.aload_n 0, 1) := by decide +kernel
theorem d_Law_hinge_3 : decode b_Law_hinge 3 = .ok (.iload_n 1, 1) := by decide +kernel
theorem d_Law_hinge_4 : decode b_Law_hinge 4 = .ok (.invokevirtual 52, 3) := by decide +kernel
theorem d_Law_hinge_19 : decode b_Law_hinge 19 = .ok (.astore_n 3, 1) := by decide +kernel
theorem d_Law_hinge_20 : decode b_Law_hinge 20 = .ok (.iconst 1, 1) := by decide +kernel
theorem d_Law_hinge_21 : decode b_Law_hinge 21 = .ok (.ireturn, 1) := by decide +kernel
theorem d_Law_law_0 : decode code 0 = .ok (.new 8, 3) := by decide +kernel
theorem d_Law_law_3 : decode code 3 = .ok (.dup, 1) := by decide +kernel
theorem d_Law_law_4 : decode code 4 = .ok (.invokespecial 68, 3) := by decide +kernel
theorem d_Law_law_7 : decode code 7 = .ok (.astore_n 1, 1) := by decide +kernel
theorem d_Law_law_8 : decode code 8 = .ok (.new 69, 3) := by decide +kernel
theorem d_Law_law_11 : decode code 11 = .ok (.dup, 1) := by decide +kernel
theorem d_Law_law_12 : decode code 12 = .ok (.invokespecial 71, 3) := by decide +kernel
theorem d_Law_law_15 : decode code 15 = .ok (.astore_n 2, 1) := by decide +kernel
theorem d_Law_law_16 : decode code 16 = .ok (.iconst 1, 1) := by decide +kernel
theorem d_Law_law_17 : decode code 17 = .ok (.newarray .long, 2) := by decide +kernel
theorem d_Law_law_19 : decode code 19 = .ok (.astore_n 3, 1) := by decide +kernel
theorem d_Law_law_20 : decode code 20 = .ok (.iconst 0, 1) := by decide +kernel
theorem d_Law_law_21 : decode code 21 = .ok (.istore 4, 2) := by decide +kernel
theorem d_Law_law_23 : decode code 23 = .ok (.iload 4, 2) := by decide +kernel
theorem d_Law_law_25 : decode code 25 = .ok (.aload_n 0, 1) := by decide +kernel
theorem d_Law_law_26 : decode code 26 = .ok (.arraylength, 1) := by decide +kernel
theorem d_Law_law_27 : decode code 27 = .ok (.iconst 4, 1) := by decide +kernel
theorem d_Law_law_28 : decode code 28 = .ok (.isub, 1) := by decide +kernel
theorem d_Law_law_29 : decode code 29 = .ok (.if_icmp .gt 1240, 3) := by decide +kernel
theorem d_Law_law_32 : decode code 32 = .ok (.aload_n 0, 1) := by decide +kernel
theorem d_Law_law_33 : decode code 33 = .ok (.iload 4, 2) := by decide +kernel
theorem d_Law_law_35 : decode code 35 = .ok (.iaload, 1) := by decide +kernel
theorem d_Law_law_36 : decode code 36 = .ok (.bipush 31, 2) := by decide +kernel
theorem d_Law_law_38 : decode code 38 = .ok (.iand, 1) := by decide +kernel
theorem d_Law_law_39 : decode code 39 = .ok (.tableswitch 1224 0 26 #[121, 177, 245, 301, 357, 370, 383, 451, 464, 477, 490, 546, 590, 665, 678, 741, 754, 767, 830, 893, 906, 962, 1042, 1110, 1185, 1198, 1211], 121) := by decide +kernel
theorem d_Law_law_160 : decode code 160 = .ok (.aload_n 1, 1) := by decide +kernel
theorem d_Law_law_161 : decode code 161 = .ok (.aload_n 0, 1) := by decide +kernel
theorem d_Law_law_162 : decode code 162 = .ok (.iload 4, 2) := by decide +kernel
theorem d_Law_law_164 : decode code 164 = .ok (.iconst 1, 1) := by decide +kernel
theorem d_Law_law_165 : decode code 165 = .ok (.iadd, 1) := by decide +kernel
theorem d_Law_law_166 : decode code 166 = .ok (.iaload, 1) := by decide +kernel
theorem d_Law_law_167 : decode code 167 = .ok (.aload_n 3, 1) := by decide +kernel
theorem d_Law_law_168 : decode code 168 = .ok (.invokestatic 72, 3) := by decide +kernel
theorem d_Law_law_171 : decode code 171 = .ok (.istore 5, 2) := by decide +kernel
theorem d_Law_law_173 : decode code 173 = .ok (.aload_n 2, 1) := by decide +kernel
theorem d_Law_law_174 : decode code 174 = .ok (.aload_n 0, 1) := by decide +kernel
theorem d_Law_law_175 : decode code 175 = .ok (.iload 4, 2) := by decide +kernel
theorem d_Law_law_177 : decode code 177 = .ok (.iconst 1, 1) := by decide +kernel
theorem d_Law_law_178 : decode code 178 = .ok (.iadd, 1) := by decide +kernel
theorem d_Law_law_179 : decode code 179 = .ok (.iaload, 1) := by decide +kernel
theorem d_Law_law_180 : decode code 180 = .ok (.invokevirtual 77, 3) := by decide +kernel
theorem d_Law_law_183 : decode code 183 = .ok (.istore 6, 2) := by decide +kernel
theorem d_Law_law_185 : decode code 185 = .ok (.aload_n 2, 1) := by decide +kernel
theorem d_Law_law_186 : decode code 186 = .ok (.invokevirtual 78, 3) := by decide +kernel
theorem d_Law_law_189 : decode code 189 = .ok (.iload 5, 2) := by decide +kernel
theorem d_Law_law_191 : decode code 191 = .ok (.if_icmp .eq 5, 3) := by decide +kernel
theorem d_Law_law_196 : decode code 196 = .ok (.iload 5, 2) := by decide +kernel
theorem d_Law_law_198 : decode code 198 = .ok (.ifCond .ne 15, 3) := by decide +kernel
theorem d_Law_law_201 : decode code 201 = .ok (.aload_n 3, 1) := by decide +kernel
theorem d_Law_law_202 : decode code 202 = .ok (.iconst 0, 1) := by decide +kernel
theorem d_Law_law_203 : decode code 203 = .ok (.laload, 1) := by decide +kernel
theorem d_Law_law_204 : decode code 204 = .ok (.iload 6, 2) := by decide +kernel
theorem d_Law_law_206 : decode code 206 = .ok (.i2l, 1) := by decide +kernel
theorem d_Law_law_207 : decode code 207 = .ok (.lcmp, 1) := by decide +kernel
theorem d_Law_law_208 : decode code 208 = .ok (.ifCond .eq 5, 3) := by decide +kernel
theorem d_Law_law_213 : decode code 213 = .ok (.goto 1050, 3) := by decide +kernel
theorem d_Law_law_216 : decode code 216 = .ok (.aload_n 1, 1) := by decide +kernel
theorem d_Law_law_217 : decode code 217 = .ok (.aload_n 0, 1) := by decide +kernel
theorem d_Law_law_218 : decode code 218 = .ok (.iload 4, 2) := by decide +kernel
theorem d_Law_law_220 : decode code 220 = .ok (.iconst 1, 1) := by decide +kernel
theorem d_Law_law_221 : decode code 221 = .ok (.iadd, 1) := by decide +kernel
theorem d_Law_law_222 : decode code 222 = .ok (.iaload, 1) := by decide +kernel
theorem d_Law_law_223 : decode code 223 = .ok (.aload_n 0, 1) := by decide +kernel
theorem d_Law_law_224 : decode code 224 = .ok (.iload 4, 2) := by decide +kernel
theorem d_Law_law_226 : decode code 226 = .ok (.iconst 2, 1) := by decide +kernel
theorem d_Law_law_227 : decode code 227 = .ok (.iadd, 1) := by decide +kernel
theorem d_Law_law_228 : decode code 228 = .ok (.iaload, 1) := by decide +kernel
theorem d_Law_law_229 : decode code 229 = .ok (.aload_n 3, 1) := by decide +kernel
theorem d_Law_law_230 : decode code 230 = .ok (.invokestatic 81, 3) := by decide +kernel
theorem d_Law_law_233 : decode code 233 = .ok (.istore 5, 2) := by decide +kernel
theorem d_Law_law_235 : decode code 235 = .ok (.aload_n 2, 1) := by decide +kernel
theorem d_Law_law_236 : decode code 236 = .ok (.aload_n 0, 1) := by decide +kernel
theorem d_Law_law_237 : decode code 237 = .ok (.iload 4, 2) := by decide +kernel
theorem d_Law_law_239 : decode code 239 = .ok (.iconst 1, 1) := by decide +kernel
theorem d_Law_law_240 : decode code 240 = .ok (.iadd, 1) := by decide +kernel
theorem d_Law_law_241 : decode code 241 = .ok (.iaload, 1) := by decide +kernel
theorem d_Law_law_242 : decode code 242 = .ok (.aload_n 0, 1) := by decide +kernel
theorem d_Law_law_243 : decode code 243 = .ok (.iload 4, 2) := by decide +kernel
theorem d_Law_law_245 : decode code 245 = .ok (.iconst 2, 1) := by decide +kernel
theorem d_Law_law_246 : decode code 246 = .ok (.iadd, 1) := by decide +kernel
theorem d_Law_law_247 : decode code 247 = .ok (.iaload, 1) := by decide +kernel
theorem d_Law_law_248 : decode code 248 = .ok (.invokevirtual 84, 3) := by decide +kernel
theorem d_Law_law_251 : decode code 251 = .ok (.istore 6, 2) := by decide +kernel
theorem d_Law_law_253 : decode code 253 = .ok (.aload_n 2, 1) := by decide +kernel
theorem d_Law_law_254 : decode code 254 = .ok (.invokevirtual 78, 3) := by decide +kernel
theorem d_Law_law_257 : decode code 257 = .ok (.iload 5, 2) := by decide +kernel
theorem d_Law_law_259 : decode code 259 = .ok (.if_icmp .eq 5, 3) := by decide +kernel
theorem d_Law_law_264 : decode code 264 = .ok (.iload 5, 2) := by decide +kernel
theorem d_Law_law_266 : decode code 266 = .ok (.ifCond .ne 15, 3) := by decide +kernel
theorem d_Law_law_281 : decode code 281 = .ok (.goto 982, 3) := by decide +kernel
theorem d_Law_law_284 : decode code 284 = .ok (.aload_n 1, 1) := by decide +kernel
theorem d_Law_law_285 : decode code 285 = .ok (.aload_n 0, 1) := by decide +kernel
theorem d_Law_law_286 : decode code 286 = .ok (.iload 4, 2) := by decide +kernel
theorem d_Law_law_288 : decode code 288 = .ok (.iconst 1, 1) := by decide +kernel
theorem d_Law_law_289 : decode code 289 = .ok (.iadd, 1) := by decide +kernel
theorem d_Law_law_290 : decode code 290 = .ok (.iaload, 1) := by decide +kernel
theorem d_Law_law_291 : decode code 291 = .ok (.aload_n 3, 1) := by decide +kernel
theorem d_Law_law_292 : decode code 292 = .ok (.invokestatic 85, 3) := by decide +kernel
theorem d_Law_law_295 : decode code 295 = .ok (.istore 5, 2) := by decide +kernel
theorem d_Law_law_297 : decode code 297 = .ok (.aload_n 2, 1) := by decide +kernel
theorem d_Law_law_298 : decode code 298 = .ok (.aload_n 0, 1) := by decide +kernel
theorem d_Law_law_299 : decode code 299 = .ok (.iload 4, 2) := by decide +kernel
theorem d_Law_law_301 : decode code 301 = .ok (.iconst 1, 1) := by decide +kernel
theorem d_Law_law_302 : decode code 302 = .ok (.iadd, 1) := by decide +kernel
theorem d_Law_law_303 : decode code 303 = .ok (.iaload, 1) := by decide +kernel
theorem d_Law_law_304 : decode code 304 = .ok (.invokevirtual 87, 3) := by decide +kernel
theorem d_Law_law_307 : decode code 307 = .ok (.istore 6, 2) := by decide +kernel
theorem d_Law_law_309 : decode code 309 = .ok (.aload_n 2, 1) := by decide +kernel
theorem d_Law_law_310 : decode code 310 = .ok (.invokevirtual 78, 3) := by decide +kernel
theorem d_Law_law_313 : decode code 313 = .ok (.iload 5, 2) := by decide +kernel
theorem d_Law_law_315 : decode code 315 = .ok (.if_icmp .eq 5, 3) := by decide +kernel
theorem d_Law_law_320 : decode code 320 = .ok (.iload 5, 2) := by decide +kernel
theorem d_Law_law_322 : decode code 322 = .ok (.ifCond .ne 15, 3) := by decide +kernel
theorem d_Law_law_337 : decode code 337 = .ok (.goto 926, 3) := by decide +kernel
theorem d_Law_law_340 : decode code 340 = .ok (.aload_n 1, 1) := by decide +kernel
theorem d_Law_law_341 : decode code 341 = .ok (.aload_n 0, 1) := by decide +kernel
theorem d_Law_law_342 : decode code 342 = .ok (.iload 4, 2) := by decide +kernel
theorem d_Law_law_344 : decode code 344 = .ok (.iconst 1, 1) := by decide +kernel
theorem d_Law_law_345 : decode code 345 = .ok (.iadd, 1) := by decide +kernel
theorem d_Law_law_346 : decode code 346 = .ok (.iaload, 1) := by decide +kernel
theorem d_Law_law_347 : decode code 347 = .ok (.aload_n 3, 1) := by decide +kernel
theorem d_Law_law_348 : decode code 348 = .ok (.invokestatic 88, 3) := by decide +kernel
theorem d_Law_law_351 : decode code 351 = .ok (.istore 5, 2) := by decide +kernel
theorem d_Law_law_353 : decode code 353 = .ok (.aload_n 2, 1) := by decide +kernel
theorem d_Law_law_354 : decode code 354 = .ok (.aload_n 0, 1) := by decide +kernel
theorem d_Law_law_355 : decode code 355 = .ok (.iload 4, 2) := by decide +kernel
theorem d_Law_law_357 : decode code 357 = .ok (.iconst 1, 1) := by decide +kernel
theorem d_Law_law_358 : decode code 358 = .ok (.iadd, 1) := by decide +kernel
theorem d_Law_law_359 : decode code 359 = .ok (.iaload, 1) := by decide +kernel
theorem d_Law_law_360 : decode code 360 = .ok (.invokevirtual 90, 3) := by decide +kernel
theorem d_Law_law_363 : decode code 363 = .ok (.istore 6, 2) := by decide +kernel
theorem d_Law_law_365 : decode code 365 = .ok (.aload_n 2, 1) := by decide +kernel
theorem d_Law_law_366 : decode code 366 = .ok (.invokevirtual 78, 3) := by decide +kernel
theorem d_Law_law_369 : decode code 369 = .ok (.iload 5, 2) := by decide +kernel
theorem d_Law_law_371 : decode code 371 = .ok (.if_icmp .eq 5, 3) := by decide +kernel
theorem d_Law_law_376 : decode code 376 = .ok (.iload 5, 2) := by decide +kernel
theorem d_Law_law_378 : decode code 378 = .ok (.ifCond .ne 15, 3) := by decide +kernel
theorem d_Law_law_393 : decode code 393 = .ok (.goto 870, 3) := by decide +kernel
theorem d_Law_law_396 : decode code 396 = .ok (.aload_n 1, 1) := by decide +kernel
theorem d_Law_law_397 : decode code 397 = .ok (.invokevirtual 91, 3) := by decide +kernel
theorem d_Law_law_400 : decode code 400 = .ok (.aload_n 2, 1) := by decide +kernel
theorem d_Law_law_401 : decode code 401 = .ok (.invokevirtual 94, 3) := by decide +kernel
theorem d_Law_law_404 : decode code 404 = .ok (.if_icmp .eq 859, 3) := by decide +kernel
theorem d_Law_law_409 : decode code 409 = .ok (.aload_n 1, 1) := by decide +kernel
theorem d_Law_law_410 : decode code 410 = .ok (.invokevirtual 95, 3) := by decide +kernel
theorem d_Law_law_413 : decode code 413 = .ok (.aload_n 2, 1) := by decide +kernel
