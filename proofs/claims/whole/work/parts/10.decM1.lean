theorem d_Mod_init_0 : decode b_Mod_init 0 = .ok (.aload_n 0, 1) := by decide +kernel
theorem d_Mod_init_1 : decode b_Mod_init 1 = .ok (.invokespecial 1, 3) := by decide +kernel
theorem d_Mod_init_4 : decode b_Mod_init 4 = .ok (.aload_n 0, 1) := by decide +kernel
theorem d_Mod_init_5 : decode b_Mod_init 5 = .ok (.bipush 60, 2) := by decide +kernel
theorem d_Mod_init_7 : decode b_Mod_init 7 = .ok (.newarray .int, 2) := by decide +kernel
theorem d_Mod_init_9 : decode b_Mod_init 9 = .ok (.putfield 7, 3) := by decide +kernel
theorem d_Mod_init_12 : decode b_Mod_init 12 = .ok (.aload_n 0, 1) := by decide +kernel
theorem d_Mod_init_13 : decode b_Mod_init 13 = .ok (.sipush 128, 3) := by decide +kernel
theorem d_Mod_init_16 : decode b_Mod_init 16 = .ok (.newarray .int, 2) := by decide +kernel
theorem d_Mod_init_18 : decode b_Mod_init 18 = .ok (.putfield 13, 3) := by decide +kernel
theorem d_Mod_init_21 : decode b_Mod_init 21 = .ok (.aload_n 0, 1) := by decide +kernel
theorem d_Mod_init_22 : decode b_Mod_init 22 = .ok (.iconst 5, 1) := by decide +kernel
theorem d_Mod_init_23 : decode b_Mod_init 23 = .ok (.newarray .int, 2) := by decide +kernel
theorem d_Mod_init_25 : decode b_Mod_init 25 = .ok (.putfield 16, 3) := by decide +kernel
theorem d_Mod_init_28 : decode b_Mod_init 28 = .ok (.aload_n 0, 1) := by decide +kernel
theorem d_Mod_init_29 : decode b_Mod_init 29 = .ok (.bipush 96, 2) := by decide +kernel
theorem d_Mod_init_31 : decode b_Mod_init 31 = .ok (.newarray .int, 2) := by decide +kernel
theorem d_Mod_init_33 : decode b_Mod_init 33 = .ok (.putfield 19, 3) := by decide +kernel
theorem d_Mod_init_36 : decode b_Mod_init 36 = .ok (.aload_n 0, 1) := by decide +kernel
theorem d_Mod_init_37 : decode b_Mod_init 37 = .ok (.iconst 4, 1) := by decide +kernel
theorem d_Mod_init_38 : decode b_Mod_init 38 = .ok (.newarray .int, 2) := by decide +kernel
theorem d_Mod_init_40 : decode b_Mod_init 40 = .ok (.putfield 22, 3) := by decide +kernel
theorem d_Mod_init_43 : decode b_Mod_init 43 = .ok (.aload_n 0, 1) := by decide +kernel
theorem d_Mod_init_44 : decode b_Mod_init 44 = .ok (.bipush 100, 2) := by decide +kernel
theorem d_Mod_init_46 : decode b_Mod_init 46 = .ok (.newarray .int, 2) := by decide +kernel
theorem d_Mod_init_48 : decode b_Mod_init 48 = .ok (.putfield 25, 3) := by decide +kernel
theorem d_Mod_init_51 : decode b_Mod_init 51 = .ok (.aload_n 0, 1) := by decide +kernel
theorem d_Mod_init_52 : decode b_Mod_init 52 = .ok (.bipush 120, 2) := by decide +kernel
theorem d_Mod_init_54 : decode b_Mod_init 54 = .ok (.newarray .int, 2) := by decide +kernel
theorem d_Mod_init_56 : decode b_Mod_init 56 = .ok (.putfield 28, 3) := by decide +kernel
theorem d_Mod_init_59 : decode b_Mod_init 59 = .ok (.aload_n 0, 1) := by decide +kernel
theorem d_Mod_init_60 : decode b_Mod_init 60 = .ok (.bipush 20, 2) := by decide +kernel
theorem d_Mod_init_62 : decode b_Mod_init 62 = .ok (.newarray .int, 2) := by decide +kernel
theorem d_Mod_init_64 : decode b_Mod_init 64 = .ok (.putfield 31, 3) := by decide +kernel
theorem d_Mod_init_67 : decode b_Mod_init 67 = .ok (.aload_n 0, 1) := by decide +kernel
theorem d_Mod_init_68 : decode b_Mod_init 68 = .ok (.sipush 200, 3) := by decide +kernel
theorem d_Mod_init_71 : decode b_Mod_init 71 = .ok (.newarray .int, 2) := by decide +kernel
theorem d_Mod_init_73 : decode b_Mod_init 73 = .ok (.putfield 34, 3) := by decide +kernel
theorem d_Mod_init_76 : decode b_Mod_init 76 = .ok (.aload_n 0, 1) := by decide +kernel
theorem d_Mod_init_77 : decode b_Mod_init 77 = .ok (.sipush 200, 3) := by decide +kernel
theorem d_Mod_init_80 : decode b_Mod_init 80 = .ok (.newarray .int, 2) := by decide +kernel
theorem d_Mod_init_82 : decode b_Mod_init 82 = .ok (.putfield 37, 3) := by decide +kernel
theorem d_Mod_init_85 : decode b_Mod_init 85 = .ok (.aload_n 0, 1) := by decide +kernel
theorem d_Mod_init_86 : decode b_Mod_init 86 = .ok (.sipush 200, 3) := by decide +kernel
theorem d_Mod_init_89 : decode b_Mod_init 89 = .ok (.newarray .int, 2) := by decide +kernel
theorem d_Mod_init_91 : decode b_Mod_init 91 = .ok (.putfield 40, 3) := by decide +kernel
theorem d_Mod_init_94 : decode b_Mod_init 94 = .ok (.aload_n 0, 1) := by decide +kernel
theorem d_Mod_init_95 : decode b_Mod_init 95 = .ok (.bipush 8, 2) := by decide +kernel
theorem d_Mod_init_97 : decode b_Mod_init 97 = .ok (.newarray .int, 2) := by decide +kernel
theorem d_Mod_init_99 : decode b_Mod_init 99 = .ok (.putfield 43, 3) := by decide +kernel
theorem d_Mod_init_102 : decode b_Mod_init 102 = .ok (.aload_n 0, 1) := by decide +kernel
theorem d_Mod_init_103 : decode b_Mod_init 103 = .ok (.bipush 120, 2) := by decide +kernel
theorem d_Mod_init_105 : decode b_Mod_init 105 = .ok (.newarray .int, 2) := by decide +kernel
theorem d_Mod_init_107 : decode b_Mod_init 107 = .ok (.putfield 46, 3) := by decide +kernel
theorem d_Mod_init_110 : decode b_Mod_init 110 = .ok (.aload_n 0, 1) := by decide +kernel
theorem d_Mod_init_111 : decode b_Mod_init 111 = .ok (.bipush 120, 2) := by decide +kernel
theorem d_Mod_init_113 : decode b_Mod_init 113 = .ok (.newarray .int, 2) := by decide +kernel
theorem d_Mod_init_115 : decode b_Mod_init 115 = .ok (.putfield 49, 3) := by decide +kernel
theorem d_Mod_init_118 : decode b_Mod_init 118 = .ok (.aload_n 0, 1) := by decide +kernel
theorem d_Mod_init_119 : decode b_Mod_init 119 = .ok (.bipush 120, 2) := by decide +kernel
theorem d_Mod_init_121 : decode b_Mod_init 121 = .ok (.newarray .int, 2) := by decide +kernel
theorem d_Mod_init_123 : decode b_Mod_init 123 = .ok (.putfield 52, 3) := by decide +kernel
theorem d_Mod_init_126 : decode b_Mod_init 126 = .ok (.aload_n 0, 1) := by decide +kernel
theorem d_Mod_init_127 : decode b_Mod_init 127 = .ok (.bipush 120, 2) := by decide +kernel
theorem d_Mod_init_129 : decode b_Mod_init 129 = .ok (.newarray .int, 2) := by decide +kernel
theorem d_Mod_init_131 : decode b_Mod_init 131 = .ok (.putfield 55, 3) := by decide +kernel
theorem d_Mod_init_134 : decode b_Mod_init 134 = .ok (.aload_n 0, 1) := by decide +kernel
theorem d_Mod_init_135 : decode b_Mod_init 135 = .ok (.bipush 120, 2) := by decide +kernel
theorem d_Mod_init_137 : decode b_Mod_init 137 = .ok (.newarray .int, 2) := by decide +kernel
theorem d_Mod_init_139 : decode b_Mod_init 139 = .ok (.putfield 58, 3) := by decide +kernel
theorem d_Mod_init_142 : decode b_Mod_init 142 = .ok (.aload_n 0, 1) := by decide +kernel
theorem d_Mod_init_143 : decode b_Mod_init 143 = .ok (.bipush 121, 2) := by decide +kernel
theorem d_Mod_init_145 : decode b_Mod_init 145 = .ok (.newarray .boolean, 2) := by decide +kernel
theorem d_Mod_init_147 : decode b_Mod_init 147 = .ok (.putfield 61, 3) := by decide +kernel
theorem d_Mod_init_150 : decode b_Mod_init 150 = .ok (.aload_n 0, 1) := by decide +kernel
theorem d_Mod_init_151 : decode b_Mod_init 151 = .ok (.bipush 26, 2) := by decide +kernel
theorem d_Mod_init_153 : decode b_Mod_init 153 = .ok (.newarray .int, 2) := by decide +kernel
theorem d_Mod_init_155 : decode b_Mod_init 155 = .ok (.putfield 65, 3) := by decide +kernel
theorem d_Mod_init_158 : decode b_Mod_init 158 = .ok (.aload_n 0, 1) := by decide +kernel
theorem d_Mod_init_159 : decode b_Mod_init 159 = .ok (.bipush 26, 2) := by decide +kernel
theorem d_Mod_init_161 : decode b_Mod_init 161 = .ok (.newarray .int, 2) := by decide +kernel
theorem d_Mod_init_163 : decode b_Mod_init 163 = .ok (.putfield 68, 3) := by decide +kernel
theorem d_Mod_init_166 : decode b_Mod_init 166 = .ok (.aload_n 0, 1) := by decide +kernel
theorem d_Mod_init_167 : decode b_Mod_init 167 = .ok (.bipush 26, 2) := by decide +kernel
theorem d_Mod_init_169 : decode b_Mod_init 169 = .ok (.newarray .int, 2) := by decide +kernel
theorem d_Mod_init_171 : decode b_Mod_init 171 = .ok (.putfield 71, 3) := by decide +kernel
theorem d_Mod_init_174 : decode b_Mod_init 174 = .ok (.aload_n 0, 1) := by decide +kernel
theorem d_Mod_init_175 : decode b_Mod_init 175 = .ok (.bipush 26, 2) := by decide +kernel
theorem d_Mod_init_177 : decode b_Mod_init 177 = .ok (.newarray .long, 2) := by decide +kernel
theorem d_Mod_init_179 : decode b_Mod_init 179 = .ok (.putfield 74, 3) := by decide +kernel
theorem d_Mod_init_182 : decode b_Mod_init 182 = .ok (.aload_n 0, 1) := by decide +kernel
theorem d_Mod_init_183 : decode b_Mod_init 183 = .ok (.bipush 26, 2) := by decide +kernel
theorem d_Mod_init_185 : decode b_Mod_init 185 = .ok (.newarray .int, 2) := by decide +kernel
theorem d_Mod_init_187 : decode b_Mod_init 187 = .ok (.putfield 78, 3) := by decide +kernel
theorem d_Mod_init_190 : decode b_Mod_init 190 = .ok (.aload_n 0, 1) := by decide +kernel
theorem d_Mod_init_191 : decode b_Mod_init 191 = .ok (.bipush 26, 2) := by decide +kernel
theorem d_Mod_init_193 : decode b_Mod_init 193 = .ok (.newarray .int, 2) := by decide +kernel
theorem d_Mod_init_195 : decode b_Mod_init 195 = .ok (.putfield 81, 3) := by decide +kernel
theorem d_Mod_init_198 : decode b_Mod_init 198 = .ok (.aload_n 0, 1) := by decide +kernel
theorem d_Mod_init_199 : decode b_Mod_init 199 = .ok (.bipush 25, 2) := by decide +kernel
theorem d_Mod_init_201 : decode b_Mod_init 201 = .ok (.newarray .int, 2) := by decide +kernel
theorem d_Mod_init_203 : decode b_Mod_init 203 = .ok (.putfield 84, 3) := by decide +kernel
theorem d_Mod_init_206 : decode b_Mod_init 206 = .ok (.aload_n 0, 1) := by decide +kernel
theorem d_Mod_init_207 : decode b_Mod_init 207 = .ok (.bipush 25, 2) := by decide +kernel
theorem d_Mod_init_209 : decode b_Mod_init 209 = .ok (.newarray .int, 2) := by decide +kernel
theorem d_Mod_init_211 : decode b_Mod_init 211 = .ok (.putfield 87, 3) := by decide +kernel
theorem d_Mod_init_214 : decode b_Mod_init 214 = .ok (.aload_n 0, 1) := by decide +kernel
theorem d_Mod_init_215 : decode b_Mod_init 215 = .ok (.bipush 25, 2) := by decide +kernel
theorem d_Mod_init_217 : decode b_Mod_init 217 = .ok (.newarray .int, 2) := by decide +kernel
theorem d_Mod_init_219 : decode b_Mod_init 219 = .ok (.putfield 90, 3) := by decide +kernel
theorem d_Mod_init_222 : decode b_Mod_init 222 = .ok (.aload_n 0, 1) := by decide +kernel
theorem d_Mod_init_223 : decode b_Mod_init 223 = .ok (.bipush 25, 2) := by decide +kernel
theorem d_Mod_init_225 : decode b_Mod_init 225 = .ok (.newarray .int, 2) := by decide +kernel
theorem d_Mod_init_227 : decode b_Mod_init 227 = .ok (.putfield 93, 3) := by decide +kernel
theorem d_Mod_init_230 : decode b_Mod_init 230 = .ok (.aload_n 0, 1) := by decide +kernel
theorem d_Mod_init_231 : decode b_Mod_init 231 = .ok (.bipush 25, 2) := by decide +kernel
theorem d_Mod_init_233 : decode b_Mod_init 233 = .ok (.newarray .int, 2) := by decide +kernel
theorem d_Mod_init_235 : decode b_Mod_init 235 = .ok (.putfield 96, 3) := by decide +kernel
theorem d_Mod_init_238 : decode b_Mod_init 238 = .ok (.aload_n 0, 1) := by decide +kernel
theorem d_Mod_init_239 : decode b_Mod_init 239 = .ok (.bipush 25, 2) := by decide +kernel
theorem d_Mod_init_241 : decode b_Mod_init 241 = .ok (.newarray .int, 2) := by decide +kernel
theorem d_Mod_init_243 : decode b_Mod_init 243 = .ok (.putfield 99, 3) := by decide +kernel
theorem d_Mod_init_246 : decode b_Mod_init 246 = .ok (.aload_n 0, 1) := by decide +kernel
theorem d_Mod_init_247 : decode b_Mod_init 247 = .ok (.bipush 25, 2) := by decide +kernel
theorem d_Mod_init_249 : decode b_Mod_init 249 = .ok (.newarray .int, 2) := by decide +kernel
theorem d_Mod_init_251 : decode b_Mod_init 251 = .ok (.putfield 102, 3) := by decide +kernel
theorem d_Mod_init_254 : decode b_Mod_init 254 = .ok (.aload_n 0, 1) := by decide +kernel
theorem d_Mod_init_255 : decode b_Mod_init 255 = .ok (.bipush 25, 2) := by decide +kernel
theorem d_Mod_init_257 : decode b_Mod_init 257 = .ok (.newarray .int, 2) := by decide +kernel
theorem d_Mod_init_259 : decode b_Mod_init 259 = .ok (.putfield 105, 3) := by decide +kernel
theorem d_Mod_init_262 : decode b_Mod_init 262 = .ok (.aload_n 0, 1) := by decide +kernel
theorem d_Mod_init_263 : decode b_Mod_init 263 = .ok (.bipush 25, 2) := by decide +kernel
theorem d_Mod_init_265 : decode b_Mod_init 265 = .ok (.newarray .int, 2) := by decide +kernel
theorem d_Mod_init_267 : decode b_Mod_init 267 = .ok (.putfield 108, 3) := by decide +kernel
theorem d_Mod_init_270 : decode b_Mod_init 270 = .ok (.iconst 0, 1) := by decide +kernel
theorem d_Mod_init_271 : decode b_Mod_init 271 = .ok (.istore_n 1, 1) := by decide +kernel
theorem d_Mod_init_272 : decode b_Mod_init 272 = .ok (.iload_n 1, 1) := by decide +kernel
theorem d_Mod_init_273 : decode b_Mod_init 273 = .ok (.sipush 128, 3) := by decide +kernel
theorem d_Mod_init_276 : decode b_Mod_init 276 = .ok (.if_icmp .ge 16, 3) := by decide +kernel
theorem d_Mod_init_279 : decode b_Mod_init 279 = .ok (.aload_n 0, 1) := by decide +kernel
theorem d_Mod_init_280 : decode b_Mod_init 280 = .ok (.getfield 13, 3) := by decide +kernel
theorem d_Mod_init_283 : decode b_Mod_init 283 = .ok (.iload_n 1, 1) := by decide +kernel
theorem d_Mod_init_284 : decode b_Mod_init 284 = .ok (.iconst 5, 1) := by decide +kernel
theorem d_Mod_init_285 : decode b_Mod_init 285 = .ok (.iastore, 1) := by decide +kernel
theorem d_Mod_init_286 : decode b_Mod_init 286 = .ok (.iinc 1 1, 3) := by decide +kernel
theorem d_Mod_init_289 : decode b_Mod_init 289 = .ok (.goto (-17), 3) := by decide +kernel
theorem d_Mod_init_292 : decode b_Mod_init 292 = .ok (.aload_n 0, 1) := by decide +kernel
theorem d_Mod_init_293 : decode b_Mod_init 293 = .ok (.getfield 16, 3) := by decide +kernel
theorem d_Mod_init_296 : decode b_Mod_init 296 = .ok (.iconst 0, 1) := by decide +kernel
theorem d_Mod_init_297 : decode b_Mod_init 297 = .ok (.bipush 60, 2) := by decide +kernel
theorem d_Mod_init_299 : decode b_Mod_init 299 = .ok (.iastore, 1) := by decide +kernel
theorem d_Mod_init_300 : decode b_Mod_init 300 = .ok (.aload_n 0, 1) := by decide +kernel
theorem d_Mod_init_301 : decode b_Mod_init 301 = .ok (.getfield 16, 3) := by decide +kernel
theorem d_Mod_init_304 : decode b_Mod_init 304 = .ok (.iconst 1, 1) := by decide +kernel
theorem d_Mod_init_305 : decode b_Mod_init 305 = .ok (.sipush 200, 3) := by decide +kernel
theorem d_Mod_init_308 : decode b_Mod_init 308 = .ok (.iastore, 1) := by decide +kernel
theorem d_Mod_init_309 : decode b_Mod_init 309 = .ok (.aload_n 0, 1) := by decide +kernel
theorem d_Mod_init_310 : decode b_Mod_init 310 = .ok (.getfield 16, 3) := by decide +kernel
theorem d_Mod_init_313 : decode b_Mod_init 313 = .ok (.iconst 2, 1) := by decide +kernel
theorem d_Mod_init_314 : decode b_Mod_init 314 = .ok (.bipush 10, 2) := by decide +kernel
theorem d_Mod_init_316 : decode b_Mod_init 316 = .ok (.iastore, 1) := by decide +kernel
theorem d_Mod_init_317 : decode b_Mod_init 317 = .ok (.aload_n 0, 1) := by decide +kernel
theorem d_Mod_init_318 : decode b_Mod_init 318 = .ok (.getfield 16, 3) := by decide +kernel
theorem d_Mod_init_321 : decode b_Mod_init 321 = .ok (.iconst 3, 1) := by decide +kernel
theorem d_Mod_init_322 : decode b_Mod_init 322 = .ok (.bipush 50, 2) := by decide +kernel
theorem d_Mod_init_324 : decode b_Mod_init 324 = .ok (.iastore, 1) := by decide +kernel
theorem d_Mod_init_325 : decode b_Mod_init 325 = .ok (.iconst 0, 1) := by decide +kernel
theorem d_Mod_init_326 : decode b_Mod_init 326 = .ok (.istore_n 1, 1) := by decide +kernel
theorem d_Mod_init_327 : decode b_Mod_init 327 = .ok (.iload_n 1, 1) := by decide +kernel
theorem d_Mod_init_328 : decode b_Mod_init 328 = .ok (.iconst 4, 1) := by decide +kernel
theorem d_Mod_init_329 : decode b_Mod_init 329 = .ok (.if_icmp .ge 16, 3) := by decide +kernel
theorem d_Mod_init_332 : decode b_Mod_init 332 = .ok (.aload_n 0, 1) := by decide +kernel
theorem d_Mod_init_333 : decode b_Mod_init 333 = .ok (.getfield 22, 3) := by decide +kernel
theorem d_Mod_init_336 : decode b_Mod_init 336 = .ok (.iload_n 1, 1) := by decide +kernel
theorem d_Mod_init_337 : decode b_Mod_init 337 = .ok (.iconst (-1), 1) := by decide +kernel
theorem d_Mod_init_338 : decode b_Mod_init 338 = .ok (.iastore, 1) := by decide +kernel
theorem d_Mod_init_339 : decode b_Mod_init 339 = .ok (.iinc 1 1, 3) := by decide +kernel
theorem d_Mod_init_342 : decode b_Mod_init 342 = .ok (.goto (-15), 3) := by decide +kernel
theorem d_Mod_init_345 : decode b_Mod_init 345 = .ok (.return_, 1) := by decide +kernel
theorem d_Mod_type_0 : decode b_Mod_type 0 = .ok (.iload_n 1, 1) := by decide +kernel
theorem d_Mod_type_1 : decode b_Mod_type 1 = .ok (.bipush 32, 2) := by decide +kernel
theorem d_Mod_type_3 : decode b_Mod_type 3 = .ok (.if_icmp .eq 51, 3) := by decide +kernel
theorem d_Mod_type_6 : decode b_Mod_type 6 = .ok (.iload_n 1, 1) := by decide +kernel
theorem d_Mod_type_7 : decode b_Mod_type 7 = .ok (.bipush 45, 2) := by decide +kernel
theorem d_Mod_type_9 : decode b_Mod_type 9 = .ok (.if_icmp .eq 45, 3) := by decide +kernel
theorem d_Mod_type_12 : decode b_Mod_type 12 = .ok (.iload_n 1, 1) := by decide +kernel
theorem d_Mod_type_13 : decode b_Mod_type 13 = .ok (.bipush 126, 2) := by decide +kernel
theorem d_Mod_type_15 : decode b_Mod_type 15 = .ok (.if_icmp .eq 39, 3) := by decide +kernel
theorem d_Mod_type_18 : decode b_Mod_type 18 = .ok (.iload_n 1, 1) := by decide +kernel
theorem d_Mod_type_19 : decode b_Mod_type 19 = .ok (.bipush 124, 2) := by decide +kernel
theorem d_Mod_type_21 : decode b_Mod_type 21 = .ok (.if_icmp .eq 33, 3) := by decide +kernel
theorem d_Mod_type_24 : decode b_Mod_type 24 = .ok (.iload_n 1, 1) := by decide +kernel
theorem d_Mod_type_25 : decode b_Mod_type 25 = .ok (.bipush 123, 2) := by decide +kernel
theorem d_Mod_type_27 : decode b_Mod_type 27 = .ok (.if_icmp .eq 27, 3) := by decide +kernel
theorem d_Mod_type_30 : decode b_Mod_type 30 = .ok (.iload_n 1, 1) := by decide +kernel
theorem d_Mod_type_31 : decode b_Mod_type 31 = .ok (.bipush 125, 2) := by decide +kernel
theorem d_Mod_type_33 : decode b_Mod_type 33 = .ok (.if_icmp .eq 21, 3) := by decide +kernel
theorem d_Mod_type_36 : decode b_Mod_type 36 = .ok (.iload_n 1, 1) := by decide +kernel
theorem d_Mod_type_37 : decode b_Mod_type 37 = .ok (.bipush 35, 2) := by decide +kernel
theorem d_Mod_type_39 : decode b_Mod_type 39 = .ok (.if_icmp .eq 15, 3) := by decide +kernel
theorem d_Mod_type_42 : decode b_Mod_type 42 = .ok (.iload_n 1, 1) := by decide +kernel
theorem d_Mod_type_43 : decode b_Mod_type 43 = .ok (.bipush 61, 2) := by decide +kernel
theorem d_Mod_type_45 : decode b_Mod_type 45 = .ok (.if_icmp .eq 9, 3) := by decide +kernel
theorem d_Mod_type_48 : decode b_Mod_type 48 = .ok (.iload_n 1, 1) := by decide +kernel
theorem d_Mod_type_49 : decode b_Mod_type 49 = .ok (.bipush 46, 2) := by decide +kernel
theorem d_Mod_type_51 : decode b_Mod_type 51 = .ok (.if_icmp .ne 7, 3) := by decide +kernel
theorem d_Mod_type_54 : decode b_Mod_type 54 = .ok (.iconst 1, 1) := by decide +kernel
theorem d_Mod_type_55 : decode b_Mod_type 55 = .ok (.goto 4, 3) := by decide +kernel
theorem d_Mod_type_58 : decode b_Mod_type 58 = .ok (.iconst 0, 1) := by decide +kernel
theorem d_Mod_type_59 : decode b_Mod_type 59 = .ok (.istore_n 2, 1) := by decide +kernel
theorem d_Mod_type_60 : decode b_Mod_type 60 = .ok (.iload_n 1, 1) := by decide +kernel
theorem d_Mod_type_61 : decode b_Mod_type 61 = .ok (.invokestatic 111, 3) := by decide +kernel
theorem d_Mod_type_64 : decode b_Mod_type 64 = .ok (.ifCond .ne 28, 3) := by decide +kernel
theorem d_Mod_type_67 : decode b_Mod_type 67 = .ok (.iload_n 1, 1) := by decide +kernel
theorem d_Mod_type_68 : decode b_Mod_type 68 = .ok (.invokestatic 115, 3) := by decide +kernel
theorem d_Mod_type_71 : decode b_Mod_type 71 = .ok (.ifCond .ne 21, 3) := by decide +kernel
theorem d_Mod_type_74 : decode b_Mod_type 74 = .ok (.iload_n 2, 1) := by decide +kernel
theorem d_Mod_type_75 : decode b_Mod_type 75 = .ok (.ifCond .ne 17, 3) := by decide +kernel
theorem d_Mod_type_78 : decode b_Mod_type 78 = .ok (.iload_n 1, 1) := by decide +kernel
theorem d_Mod_type_79 : decode b_Mod_type 79 = .ok (.bipush 65, 2) := by decide +kernel
theorem d_Mod_type_81 : decode b_Mod_type 81 = .ok (.if_icmp .lt 9, 3) := by decide +kernel
theorem d_Mod_type_84 : decode b_Mod_type 84 = .ok (.iload_n 1, 1) := by decide +kernel
theorem d_Mod_type_85 : decode b_Mod_type 85 = .ok (.bipush 68, 2) := by decide +kernel
theorem d_Mod_type_87 : decode b_Mod_type 87 = .ok (.if_icmp .le 5, 3) := by decide +kernel
theorem d_Mod_type_90 : decode b_Mod_type 90 = .ok (.iconst (-1), 1) := by decide +kernel
theorem d_Mod_type_91 : decode b_Mod_type 91 = .ok (.ireturn, 1) := by decide +kernel
theorem d_Mod_type_92 : decode b_Mod_type 92 = .ok (.aload_n 0, 1) := by decide +kernel
theorem d_Mod_type_93 : decode b_Mod_type 93 = .ok (.getfield 118, 3) := by decide +kernel
theorem d_Mod_type_96 : decode b_Mod_type 96 = .ok (.bipush 60, 2) := by decide +kernel
theorem d_Mod_type_98 : decode b_Mod_type 98 = .ok (.if_icmp .ne 6, 3) := by decide +kernel
theorem d_Mod_type_101 : decode b_Mod_type 101 = .ok (.bipush (-2), 2) := by decide +kernel
theorem d_Mod_type_103 : decode b_Mod_type 103 = .ok (.ireturn, 1) := by decide +kernel
theorem d_Mod_type_104 : decode b_Mod_type 104 = .ok (.aload_n 0, 1) := by decide +kernel
theorem d_Mod_type_105 : decode b_Mod_type 105 = .ok (.getfield 7, 3) := by decide +kernel
theorem d_Mod_type_108 : decode b_Mod_type 108 = .ok (.aload_n 0, 1) := by decide +kernel
theorem d_Mod_type_109 : decode b_Mod_type 109 = .ok (.getfield 118, 3) := by decide +kernel
theorem d_Mod_type_112 : decode b_Mod_type 112 = .ok (.iload_n 1, 1) := by decide +kernel
theorem d_Mod_type_113 : decode b_Mod_type 113 = .ok (.iastore, 1) := by decide +kernel
theorem d_Mod_type_114 : decode b_Mod_type 114 = .ok (.aload_n 0, 1) := by decide +kernel
theorem d_Mod_type_115 : decode b_Mod_type 115 = .ok (.dup, 1) := by decide +kernel
theorem d_Mod_type_116 : decode b_Mod_type 116 = .ok (.getfield 118, 3) := by decide +kernel
theorem d_Mod_type_119 : decode b_Mod_type 119 = .ok (.iconst 1, 1) := by decide +kernel
theorem d_Mod_type_120 : decode b_Mod_type 120 = .ok (.iadd, 1) := by decide +kernel
theorem d_Mod_type_121 : decode b_Mod_type 121 = .ok (.putfield 118, 3) := by decide +kernel
theorem d_Mod_type_124 : decode b_Mod_type 124 = .ok (.aload_n 0, 1) := by decide +kernel
theorem d_Mod_type_125 : decode b_Mod_type 125 = .ok (.getfield 118, 3) := by decide +kernel
theorem d_Mod_type_128 : decode b_Mod_type 128 = .ok (.ireturn, 1) := by decide +kernel
theorem d_Mod_letter_0 : decode b_Mod_letter 0 = .ok (.iload_n 0, 1) := by decide +kernel
theorem d_Mod_letter_1 : decode b_Mod_letter 1 = .ok (.bipush 97, 2) := by decide +kernel
theorem d_Mod_letter_3 : decode b_Mod_letter 3 = .ok (.if_icmp .lt 13, 3) := by decide +kernel
theorem d_Mod_letter_6 : decode b_Mod_letter 6 = .ok (.iload_n 0, 1) := by decide +kernel
theorem d_Mod_letter_7 : decode b_Mod_letter 7 = .ok (.bipush 122, 2) := by decide +kernel
theorem d_Mod_letter_9 : decode b_Mod_letter 9 = .ok (.if_icmp .gt 7, 3) := by decide +kernel
theorem d_Mod_letter_12 : decode b_Mod_letter 12 = .ok (.iconst 1, 1) := by decide +kernel
theorem d_Mod_letter_13 : decode b_Mod_letter 13 = .ok (.goto 4, 3) := by decide +kernel
theorem d_Mod_letter_16 : decode b_Mod_letter 16 = .ok (.iconst 0, 1) := by decide +kernel
theorem d_Mod_letter_17 : decode b_Mod_letter 17 = .ok (.ireturn, 1) := by decide +kernel
theorem d_Mod_digit_0 : decode b_Mod_digit 0 = .ok (.iload_n 0, 1) := by decide +kernel
theorem d_Mod_digit_1 : decode b_Mod_digit 1 = .ok (.bipush 48, 2) := by decide +kernel
theorem d_Mod_digit_3 : decode b_Mod_digit 3 = .ok (.if_icmp .lt 13, 3) := by decide +kernel
theorem d_Mod_digit_6 : decode b_Mod_digit 6 = .ok (.iload_n 0, 1) := by decide +kernel
theorem d_Mod_digit_7 : decode b_Mod_digit 7 = .ok (.bipush 57, 2) := by decide +kernel
theorem d_Mod_digit_9 : decode b_Mod_digit 9 = .ok (.if_icmp .gt 7, 3) := by decide +kernel
theorem d_Mod_digit_12 : decode b_Mod_digit 12 = .ok (.iconst 1, 1) := by decide +kernel
theorem d_Mod_digit_13 : decode b_Mod_digit 13 = .ok (.goto 4, 3) := by decide +kernel
theorem d_Mod_digit_16 : decode b_Mod_digit 16 = .ok (.iconst 0, 1) := by decide +kernel
theorem d_Mod_digit_17 : decode b_Mod_digit 17 = .ok (.ireturn, 1) := by decide +kernel
theorem d_Mod_wipe_0 : decode b_Mod_wipe 0 = .ok (.aload_n 0, 1) := by decide +kernel
theorem d_Mod_wipe_1 : decode b_Mod_wipe 1 = .ok (.iconst 0, 1) := by decide +kernel
theorem d_Mod_wipe_2 : decode b_Mod_wipe 2 = .ok (.putfield 118, 3) := by decide +kernel
theorem d_Mod_wipe_5 : decode b_Mod_wipe 5 = .ok (.iconst 0, 1) := by decide +kernel
theorem d_Mod_wipe_6 : decode b_Mod_wipe 6 = .ok (.ireturn, 1) := by decide +kernel
theorem d_Mod_width_0 : decode b_Mod_width 0 = .ok (.iload_n 1, 1) := by decide +kernel
theorem d_Mod_width_1 : decode b_Mod_width 1 = .ok (.invokestatic 111, 3) := by decide +kernel
theorem d_Mod_width_4 : decode b_Mod_width 4 = .ok (.ifCond .ne 9, 3) := by decide +kernel
theorem d_Mod_width_7 : decode b_Mod_width 7 = .ok (.iload_n 1, 1) := by decide +kernel
theorem d_Mod_width_8 : decode b_Mod_width 8 = .ok (.bipush 45, 2) := by decide +kernel
theorem d_Mod_width_10 : decode b_Mod_width 10 = .ok (.if_icmp .ne 14, 3) := by decide +kernel
theorem d_Mod_width_13 : decode b_Mod_width 13 = .ok (.iload_n 2, 1) := by decide +kernel
theorem d_Mod_width_14 : decode b_Mod_width 14 = .ok (.iconst 1, 1) := by decide +kernel
theorem d_Mod_width_15 : decode b_Mod_width 15 = .ok (.if_icmp .lt 9, 3) := by decide +kernel
theorem d_Mod_width_18 : decode b_Mod_width 18 = .ok (.iload_n 2, 1) := by decide +kernel
theorem d_Mod_width_19 : decode b_Mod_width 19 = .ok (.bipush 20, 2) := by decide +kernel
theorem d_Mod_width_21 : decode b_Mod_width 21 = .ok (.if_icmp .le 5, 3) := by decide +kernel
theorem d_Mod_width_24 : decode b_Mod_width 24 = .ok (.iconst (-1), 1) := by decide +kernel
theorem d_Mod_width_25 : decode b_Mod_width 25 = .ok (.ireturn, 1) := by decide +kernel
theorem d_Mod_width_26 : decode b_Mod_width 26 = .ok (.aload_n 0, 1) := by decide +kernel
theorem d_Mod_width_27 : decode b_Mod_width 27 = .ok (.getfield 13, 3) := by decide +kernel
theorem d_Mod_width_30 : decode b_Mod_width 30 = .ok (.iload_n 1, 1) := by decide +kernel
theorem d_Mod_width_31 : decode b_Mod_width 31 = .ok (.iload_n 2, 1) := by decide +kernel
theorem d_Mod_width_32 : decode b_Mod_width 32 = .ok (.iastore, 1) := by decide +kernel
theorem d_Mod_width_33 : decode b_Mod_width 33 = .ok (.iconst 0, 1) := by decide +kernel
theorem d_Mod_width_34 : decode b_Mod_width 34 = .ok (.ireturn, 1) := by decide +kernel
theorem d_Mod_parameter_0 : decode b_Mod_parameter 0 = .ok (.iload_n 1, 1) := by decide +kernel
theorem d_Mod_parameter_1 : decode b_Mod_parameter 1 = .ok (.ifCond .lt 8, 3) := by decide +kernel
theorem d_Mod_parameter_4 : decode b_Mod_parameter 4 = .ok (.iload_n 1, 1) := by decide +kernel
theorem d_Mod_parameter_5 : decode b_Mod_parameter 5 = .ok (.iconst 4, 1) := by decide +kernel
theorem d_Mod_parameter_6 : decode b_Mod_parameter 6 = .ok (.if_icmp .le 5, 3) := by decide +kernel
theorem d_Mod_parameter_9 : decode b_Mod_parameter 9 = .ok (.iconst (-1), 1) := by decide +kernel
theorem d_Mod_parameter_10 : decode b_Mod_parameter 10 = .ok (.ireturn, 1) := by decide +kernel
theorem d_Mod_parameter_11 : decode b_Mod_parameter 11 = .ok (.iload_n 1, 1) := by decide +kernel
theorem d_Mod_parameter_12 : decode b_Mod_parameter 12 = .ok (.ifCond .ne 8, 3) := by decide +kernel
theorem d_Mod_parameter_15 : decode b_Mod_parameter 15 = .ok (.bipush 10, 2) := by decide +kernel
theorem d_Mod_parameter_17 : decode b_Mod_parameter 17 = .ok (.goto 4, 3) := by decide +kernel
theorem d_Mod_parameter_20 : decode b_Mod_parameter 20 = .ok (.iconst 0, 1) := by decide +kernel
theorem d_Mod_parameter_21 : decode b_Mod_parameter 21 = .ok (.istore_n 3, 1) := by decide +kernel
theorem d_Mod_parameter_22 : decode b_Mod_parameter 22 = .ok (.iload_n 1, 1) := by decide +kernel
theorem d_Mod_parameter_23 : decode b_Mod_parameter 23 = .ok (.ifCond .ne 9, 3) := by decide +kernel
theorem d_Mod_parameter_26 : decode b_Mod_parameter 26 = .ok (.sipush 400, 3) := by decide +kernel
theorem d_Mod_parameter_29 : decode b_Mod_parameter 29 = .ok (.goto 27, 3) := by decide +kernel
theorem d_Mod_parameter_32 : decode b_Mod_parameter 32 = .ok (.iload_n 1, 1) := by decide +kernel
theorem d_Mod_parameter_33 : decode b_Mod_parameter 33 = .ok (.iconst 2, 1) := by decide +kernel
theorem d_Mod_parameter_34 : decode b_Mod_parameter 34 = .ok (.if_icmp .ne 8, 3) := by decide +kernel
theorem d_Mod_parameter_37 : decode b_Mod_parameter 37 = .ok (.bipush 100, 2) := by decide +kernel
theorem d_Mod_parameter_39 : decode b_Mod_parameter 39 = .ok (.goto 17, 3) := by decide +kernel
theorem d_Mod_parameter_42 : decode b_Mod_parameter 42 = .ok (.iload_n 1, 1) := by decide +kernel
theorem d_Mod_parameter_43 : decode b_Mod_parameter 43 = .ok (.iconst 3, 1) := by decide +kernel
theorem d_Mod_parameter_44 : decode b_Mod_parameter 44 = .ok (.if_icmp .ne 9, 3) := by decide +kernel
theorem d_Mod_parameter_47 : decode b_Mod_parameter 47 = .ok (.sipush 200, 3) := by decide +kernel
theorem d_Mod_parameter_50 : decode b_Mod_parameter 50 = .ok (.goto 6, 3) := by decide +kernel
theorem d_Mod_parameter_53 : decode b_Mod_parameter 53 = .ok (.sipush 10000, 3) := by decide +kernel
theorem d_Mod_parameter_56 : decode b_Mod_parameter 56 = .ok (.istore 4, 2) := by decide +kernel
theorem d_Mod_parameter_58 : decode b_Mod_parameter 58 = .ok (.iload_n 2, 1) := by decide +kernel
theorem d_Mod_parameter_59 : decode b_Mod_parameter 59 = .ok (.iload_n 3, 1) := by decide +kernel
theorem d_Mod_parameter_60 : decode b_Mod_parameter 60 = .ok (.if_icmp .lt 9, 3) := by decide +kernel
theorem d_Mod_parameter_63 : decode b_Mod_parameter 63 = .ok (.iload_n 2, 1) := by decide +kernel
theorem d_Mod_parameter_64 : decode b_Mod_parameter 64 = .ok (.iload 4, 2) := by decide +kernel
theorem d_Mod_parameter_66 : decode b_Mod_parameter 66 = .ok (.if_icmp .le 5, 3) := by decide +kernel
theorem d_Mod_parameter_69 : decode b_Mod_parameter 69 = .ok (.iconst (-1), 1) := by decide +kernel
theorem d_Mod_parameter_70 : decode b_Mod_parameter 70 = .ok (.ireturn, 1) := by decide +kernel
theorem d_Mod_parameter_71 : decode b_Mod_parameter 71 = .ok (.aload_n 0, 1) := by decide +kernel
theorem d_Mod_parameter_72 : decode b_Mod_parameter 72 = .ok (.getfield 16, 3) := by decide +kernel
theorem d_Mod_parameter_75 : decode b_Mod_parameter 75 = .ok (.iload_n 1, 1) := by decide +kernel
theorem d_Mod_parameter_76 : decode b_Mod_parameter 76 = .ok (.iload_n 2, 1) := by decide +kernel
theorem d_Mod_parameter_77 : decode b_Mod_parameter 77 = .ok (.iastore, 1) := by decide +kernel
theorem d_Mod_parameter_78 : decode b_Mod_parameter 78 = .ok (.iconst 0, 1) := by decide +kernel
theorem d_Mod_parameter_79 : decode b_Mod_parameter 79 = .ok (.ireturn, 1) := by decide +kernel
theorem d_Mod_define_0 : decode b_Mod_define 0 = .ok (.iload_n 1, 1) := by decide +kernel
theorem d_Mod_define_1 : decode b_Mod_define 1 = .ok (.ifCond .lt 8, 3) := by decide +kernel
theorem d_Mod_define_4 : decode b_Mod_define 4 = .ok (.iload_n 1, 1) := by decide +kernel
theorem d_Mod_define_5 : decode b_Mod_define 5 = .ok (.iconst 3, 1) := by decide +kernel
theorem d_Mod_define_6 : decode b_Mod_define 6 = .ok (.if_icmp .le 5, 3) := by decide +kernel
theorem d_Mod_define_9 : decode b_Mod_define 9 = .ok (.iconst (-1), 1) := by decide +kernel
theorem d_Mod_define_10 : decode b_Mod_define 10 = .ok (.ireturn, 1) := by decide +kernel
theorem d_Mod_define_11 : decode b_Mod_define 11 = .ok (.aload_n 0, 1) := by decide +kernel
theorem d_Mod_define_12 : decode b_Mod_define 12 = .ok (.getfield 118, 3) := by decide +kernel
theorem d_Mod_define_15 : decode b_Mod_define 15 = .ok (.bipush 24, 2) := by decide +kernel
theorem d_Mod_define_17 : decode b_Mod_define 17 = .ok (.if_icmp .le 6, 3) := by decide +kernel
theorem d_Mod_define_20 : decode b_Mod_define 20 = .ok (.bipush (-2), 2) := by decide +kernel
theorem d_Mod_define_22 : decode b_Mod_define 22 = .ok (.ireturn, 1) := by decide +kernel
theorem d_Mod_define_23 : decode b_Mod_define 23 = .ok (.iconst 0, 1) := by decide +kernel
theorem d_Mod_define_24 : decode b_Mod_define 24 = .ok (.istore_n 2, 1) := by decide +kernel
theorem d_Mod_define_25 : decode b_Mod_define 25 = .ok (.iload_n 2, 1) := by decide +kernel
theorem d_Mod_define_26 : decode b_Mod_define 26 = .ok (.aload_n 0, 1) := by decide +kernel
theorem d_Mod_define_27 : decode b_Mod_define 27 = .ok (.getfield 118, 3) := by decide +kernel
theorem d_Mod_define_30 : decode b_Mod_define 30 = .ok (.if_icmp .ge 26, 3) := by decide +kernel
theorem d_Mod_define_33 : decode b_Mod_define 33 = .ok (.aload_n 0, 1) := by decide +kernel
theorem d_Mod_define_34 : decode b_Mod_define 34 = .ok (.getfield 19, 3) := by decide +kernel
theorem d_Mod_define_37 : decode b_Mod_define 37 = .ok (.iload_n 1, 1) := by decide +kernel
theorem d_Mod_define_38 : decode b_Mod_define 38 = .ok (.bipush 24, 2) := by decide +kernel
theorem d_Mod_define_40 : decode b_Mod_define 40 = .ok (.imul, 1) := by decide +kernel
theorem d_Mod_define_41 : decode b_Mod_define 41 = .ok (.iload_n 2, 1) := by decide +kernel
theorem d_Mod_define_42 : decode b_Mod_define 42 = .ok (.iadd, 1) := by decide +kernel
theorem d_Mod_define_43 : decode b_Mod_define 43 = .ok (.aload_n 0, 1) := by decide +kernel
theorem d_Mod_define_44 : decode b_Mod_define 44 = .ok (.getfield 7, 3) := by decide +kernel
theorem d_Mod_define_47 : decode b_Mod_define 47 = .ok (.iload_n 2, 1) := by decide +kernel
theorem d_Mod_define_48 : decode b_Mod_define 48 = .ok (.iaload, 1) := by decide +kernel
theorem d_Mod_define_49 : decode b_Mod_define 49 = .ok (.iastore, 1) := by decide +kernel
theorem d_Mod_define_50 : decode b_Mod_define 50 = .ok (.iinc 2 1, 3) := by decide +kernel
theorem d_Mod_define_53 : decode b_Mod_define 53 = .ok (.goto (-28), 3) := by decide +kernel
theorem d_Mod_define_56 : decode b_Mod_define 56 = .ok (.aload_n 0, 1) := by decide +kernel
theorem d_Mod_define_57 : decode b_Mod_define 57 = .ok (.getfield 22, 3) := by decide +kernel
theorem d_Mod_define_60 : decode b_Mod_define 60 = .ok (.iload_n 1, 1) := by decide +kernel
theorem d_Mod_define_61 : decode b_Mod_define 61 = .ok (.aload_n 0, 1) := by decide +kernel
theorem d_Mod_define_62 : decode b_Mod_define 62 = .ok (.getfield 118, 3) := by decide +kernel
theorem d_Mod_define_65 : decode b_Mod_define 65 = .ok (.iastore, 1) := by decide +kernel
theorem d_Mod_define_66 : decode b_Mod_define 66 = .ok (.aload_n 0, 1) := by decide +kernel
theorem d_Mod_define_67 : decode b_Mod_define 67 = .ok (.iconst 0, 1) := by decide +kernel
theorem d_Mod_define_68 : decode b_Mod_define 68 = .ok (.putfield 118, 3) := by decide +kernel
theorem d_Mod_define_71 : decode b_Mod_define 71 = .ok (.iconst 0, 1) := by decide +kernel
theorem d_Mod_define_72 : decode b_Mod_define 72 = .ok (.ireturn, 1) := by decide +kernel
theorem d_Mod_pattern_0 : decode b_Mod_pattern 0 = .ok (.aload_n 0, 1) := by decide +kernel
theorem d_Mod_pattern_1 : decode b_Mod_pattern 1 = .ok (.getfield 122, 3) := by decide +kernel
theorem d_Mod_pattern_4 : decode b_Mod_pattern 4 = .ok (.bipush 20, 2) := by decide +kernel
theorem d_Mod_pattern_6 : decode b_Mod_pattern 6 = .ok (.if_icmp .ne 6, 3) := by decide +kernel
theorem d_Mod_pattern_9 : decode b_Mod_pattern 9 = .ok (.bipush (-2), 2) := by decide +kernel
theorem d_Mod_pattern_11 : decode b_Mod_pattern 11 = .ok (.ireturn, 1) := by decide +kernel
theorem d_Mod_pattern_12 : decode b_Mod_pattern 12 = .ok (.iconst 0, 1) := by decide +kernel
theorem d_Mod_pattern_13 : decode b_Mod_pattern 13 = .ok (.istore_n 1, 1) := by decide +kernel
theorem d_Mod_pattern_14 : decode b_Mod_pattern 14 = .ok (.iconst 0, 1) := by decide +kernel
theorem d_Mod_pattern_15 : decode b_Mod_pattern 15 = .ok (.istore_n 2, 1) := by decide +kernel
theorem d_Mod_pattern_16 : decode b_Mod_pattern 16 = .ok (.iload_n 2, 1) := by decide +kernel
theorem d_Mod_pattern_17 : decode b_Mod_pattern 17 = .ok (.aload_n 0, 1) := by decide +kernel
theorem d_Mod_pattern_18 : decode b_Mod_pattern 18 = .ok (.getfield 118, 3) := by decide +kernel
theorem d_Mod_pattern_21 : decode b_Mod_pattern 21 = .ok (.if_icmp .ge 95, 3) := by decide +kernel
theorem d_Mod_pattern_24 : decode b_Mod_pattern 24 = .ok (.aload_n 0, 1) := by decide +kernel
theorem d_Mod_pattern_25 : decode b_Mod_pattern 25 = .ok (.getfield 7, 3) := by decide +kernel
theorem d_Mod_pattern_28 : decode b_Mod_pattern 28 = .ok (.iload_n 2, 1) := by decide +kernel
theorem d_Mod_pattern_29 : decode b_Mod_pattern 29 = .ok (.iaload, 1) := by decide +kernel
theorem d_Mod_pattern_30 : decode b_Mod_pattern 30 = .ok (.invokestatic 115, 3) := by decide +kernel
theorem d_Mod_pattern_33 : decode b_Mod_pattern 33 = .ok (.ifCond .eq 24, 3) := by decide +kernel
theorem d_Mod_pattern_36 : decode b_Mod_pattern 36 = .ok (.iload_n 2, 1) := by decide +kernel
theorem d_Mod_pattern_37 : decode b_Mod_pattern 37 = .ok (.ifCond .le 20, 3) := by decide +kernel
theorem d_Mod_pattern_40 : decode b_Mod_pattern 40 = .ok (.aload_n 0, 1) := by decide +kernel
theorem d_Mod_pattern_41 : decode b_Mod_pattern 41 = .ok (.getfield 7, 3) := by decide +kernel
theorem d_Mod_pattern_44 : decode b_Mod_pattern 44 = .ok (.iload_n 2, 1) := by decide +kernel
theorem d_Mod_pattern_45 : decode b_Mod_pattern 45 = .ok (.iconst 1, 1) := by decide +kernel
theorem d_Mod_pattern_46 : decode b_Mod_pattern 46 = .ok (.isub, 1) := by decide +kernel
theorem d_Mod_pattern_47 : decode b_Mod_pattern 47 = .ok (.iaload, 1) := by decide +kernel
theorem d_Mod_pattern_48 : decode b_Mod_pattern 48 = .ok (.invokestatic 115, 3) := by decide +kernel
theorem d_Mod_pattern_51 : decode b_Mod_pattern 51 = .ok (.ifCond .eq 6, 3) := by decide +kernel
theorem d_Mod_pattern_54 : decode b_Mod_pattern 54 = .ok (.bipush (-3), 2) := by decide +kernel
theorem d_Mod_pattern_56 : decode b_Mod_pattern 56 = .ok (.ireturn, 1) := by decide +kernel
theorem d_Mod_pattern_57 : decode b_Mod_pattern 57 = .ok (.aload_n 0, 1) := by decide +kernel
theorem d_Mod_pattern_58 : decode b_Mod_pattern 58 = .ok (.getfield 7, 3) := by decide +kernel
theorem d_Mod_pattern_61 : decode b_Mod_pattern 61 = .ok (.iload_n 2, 1) := by decide +kernel
theorem d_Mod_pattern_62 : decode b_Mod_pattern 62 = .ok (.iaload, 1) := by decide +kernel
theorem d_Mod_pattern_63 : decode b_Mod_pattern 63 = .ok (.invokestatic 115, 3) := by decide +kernel
theorem d_Mod_pattern_66 : decode b_Mod_pattern 66 = .ok (.ifCond .ne 29, 3) := by decide +kernel
theorem d_Mod_pattern_69 : decode b_Mod_pattern 69 = .ok (.aload_n 0, 1) := by decide +kernel
theorem d_Mod_pattern_70 : decode b_Mod_pattern 70 = .ok (.getfield 7, 3) := by decide +kernel
theorem d_Mod_pattern_73 : decode b_Mod_pattern 73 = .ok (.iload_n 2, 1) := by decide +kernel
theorem d_Mod_pattern_74 : decode b_Mod_pattern 74 = .ok (.iaload, 1) := by decide +kernel
theorem d_Mod_pattern_75 : decode b_Mod_pattern 75 = .ok (.invokestatic 111, 3) := by decide +kernel
theorem d_Mod_pattern_78 : decode b_Mod_pattern 78 = .ok (.ifCond .ne 17, 3) := by decide +kernel
theorem d_Mod_pattern_81 : decode b_Mod_pattern 81 = .ok (.aload_n 0, 1) := by decide +kernel
theorem d_Mod_pattern_82 : decode b_Mod_pattern 82 = .ok (.getfield 7, 3) := by decide +kernel
theorem d_Mod_pattern_85 : decode b_Mod_pattern 85 = .ok (.iload_n 2, 1) := by decide +kernel
theorem d_Mod_pattern_86 : decode b_Mod_pattern 86 = .ok (.iaload, 1) := by decide +kernel
theorem d_Mod_pattern_87 : decode b_Mod_pattern 87 = .ok (.bipush 46, 2) := by decide +kernel
theorem d_Mod_pattern_89 : decode b_Mod_pattern 89 = .ok (.if_icmp .eq 6, 3) := by decide +kernel
theorem d_Mod_pattern_92 : decode b_Mod_pattern 92 = .ok (.bipush (-3), 2) := by decide +kernel
theorem d_Mod_pattern_94 : decode b_Mod_pattern 94 = .ok (.ireturn, 1) := by decide +kernel
theorem d_Mod_pattern_95 : decode b_Mod_pattern 95 = .ok (.aload_n 0, 1) := by decide +kernel
theorem d_Mod_pattern_96 : decode b_Mod_pattern 96 = .ok (.getfield 7, 3) := by decide +kernel
theorem d_Mod_pattern_99 : decode b_Mod_pattern 99 = .ok (.iload_n 2, 1) := by decide +kernel
theorem d_Mod_pattern_100 : decode b_Mod_pattern 100 = .ok (.iaload, 1) := by decide +kernel
theorem d_Mod_pattern_101 : decode b_Mod_pattern 101 = .ok (.invokestatic 115, 3) := by decide +kernel
theorem d_Mod_pattern_104 : decode b_Mod_pattern 104 = .ok (.ifCond .ne 6, 3) := by decide +kernel
theorem d_Mod_pattern_107 : decode b_Mod_pattern 107 = .ok (.iinc 1 1, 3) := by decide +kernel
theorem d_Mod_pattern_110 : decode b_Mod_pattern 110 = .ok (.iinc 2 1, 3) := by decide +kernel
theorem d_Mod_pattern_113 : decode b_Mod_pattern 113 = .ok (.goto (-97), 3) := by decide +kernel
theorem d_Mod_pattern_116 : decode b_Mod_pattern 116 = .ok (.iload_n 1, 1) := by decide +kernel
theorem d_Mod_pattern_117 : decode b_Mod_pattern 117 = .ok (.iconst 1, 1) := by decide +kernel
theorem d_Mod_pattern_118 : decode b_Mod_pattern 118 = .ok (.if_icmp .lt 8, 3) := by decide +kernel
theorem d_Mod_pattern_121 : decode b_Mod_pattern 121 = .ok (.iload_n 1, 1) := by decide +kernel
theorem d_Mod_pattern_122 : decode b_Mod_pattern 122 = .ok (.iconst 5, 1) := by decide +kernel
theorem d_Mod_pattern_123 : decode b_Mod_pattern 123 = .ok (.if_icmp .le 6, 3) := by decide +kernel
theorem d_Mod_pattern_126 : decode b_Mod_pattern 126 = .ok (.bipush (-3), 2) := by decide +kernel
theorem d_Mod_pattern_128 : decode b_Mod_pattern 128 = .ok (.ireturn, 1) := by decide +kernel
theorem d_Mod_pattern_129 : decode b_Mod_pattern 129 = .ok (.iconst 0, 1) := by decide +kernel
theorem d_Mod_pattern_130 : decode b_Mod_pattern 130 = .ok (.istore_n 2, 1) := by decide +kernel
theorem d_Mod_pattern_131 : decode b_Mod_pattern 131 = .ok (.iconst 0, 1) := by decide +kernel
theorem d_Mod_pattern_132 : decode b_Mod_pattern 132 = .ok (.istore_n 3, 1) := by decide +kernel
theorem d_Mod_pattern_133 : decode b_Mod_pattern 133 = .ok (.iload_n 3, 1) := by decide +kernel
theorem d_Mod_pattern_134 : decode b_Mod_pattern 134 = .ok (.aload_n 0, 1) := by decide +kernel
theorem d_Mod_pattern_135 : decode b_Mod_pattern 135 = .ok (.getfield 118, 3) := by decide +kernel
theorem d_Mod_pattern_138 : decode b_Mod_pattern 138 = .ok (.if_icmp .ge 52, 3) := by decide +kernel
theorem d_Mod_pattern_141 : decode b_Mod_pattern 141 = .ok (.aload_n 0, 1) := by decide +kernel
theorem d_Mod_pattern_142 : decode b_Mod_pattern 142 = .ok (.getfield 7, 3) := by decide +kernel
theorem d_Mod_pattern_145 : decode b_Mod_pattern 145 = .ok (.iload_n 3, 1) := by decide +kernel
theorem d_Mod_pattern_146 : decode b_Mod_pattern 146 = .ok (.iaload, 1) := by decide +kernel
theorem d_Mod_pattern_147 : decode b_Mod_pattern 147 = .ok (.invokestatic 115, 3) := by decide +kernel
theorem d_Mod_pattern_150 : decode b_Mod_pattern 150 = .ok (.ifCond .eq 6, 3) := by decide +kernel
theorem d_Mod_pattern_153 : decode b_Mod_pattern 153 = .ok (.goto 31, 3) := by decide +kernel
theorem d_Mod_pattern_156 : decode b_Mod_pattern 156 = .ok (.aload_n 0, 1) := by decide +kernel
theorem d_Mod_pattern_157 : decode b_Mod_pattern 157 = .ok (.getfield 7, 3) := by decide +kernel
theorem d_Mod_pattern_160 : decode b_Mod_pattern 160 = .ok (.iload_n 3, 1) := by decide +kernel
theorem d_Mod_pattern_161 : decode b_Mod_pattern 161 = .ok (.iaload, 1) := by decide +kernel
theorem d_Mod_pattern_162 : decode b_Mod_pattern 162 = .ok (.bipush 46, 2) := by decide +kernel
theorem d_Mod_pattern_164 : decode b_Mod_pattern 164 = .ok (.if_icmp .ne 17, 3) := by decide +kernel
theorem d_Mod_pattern_167 : decode b_Mod_pattern 167 = .ok (.iload_n 2, 1) := by decide +kernel
theorem d_Mod_pattern_168 : decode b_Mod_pattern 168 = .ok (.ifCond .le 13, 3) := by decide +kernel
theorem d_Mod_pattern_171 : decode b_Mod_pattern 171 = .ok (.iload_n 2, 1) := by decide +kernel
theorem d_Mod_pattern_172 : decode b_Mod_pattern 172 = .ok (.iload_n 1, 1) := by decide +kernel
theorem d_Mod_pattern_173 : decode b_Mod_pattern 173 = .ok (.iconst 1, 1) := by decide +kernel
theorem d_Mod_pattern_174 : decode b_Mod_pattern 174 = .ok (.isub, 1) := by decide +kernel
theorem d_Mod_pattern_175 : decode b_Mod_pattern 175 = .ok (.if_icmp .ge 6, 3) := by decide +kernel
theorem d_Mod_pattern_178 : decode b_Mod_pattern 178 = .ok (.bipush (-3), 2) := by decide +kernel
theorem d_Mod_pattern_180 : decode b_Mod_pattern 180 = .ok (.ireturn, 1) := by decide +kernel
theorem d_Mod_pattern_181 : decode b_Mod_pattern 181 = .ok (.iinc 2 1, 3) := by decide +kernel
theorem d_Mod_pattern_184 : decode b_Mod_pattern 184 = .ok (.iinc 3 1, 3) := by decide +kernel
theorem d_Mod_pattern_187 : decode b_Mod_pattern 187 = .ok (.goto (-54), 3) := by decide +kernel
theorem d_Mod_pattern_190 : decode b_Mod_pattern 190 = .ok (.iconst 0, 1) := by decide +kernel
theorem d_Mod_pattern_191 : decode b_Mod_pattern 191 = .ok (.istore_n 3, 1) := by decide +kernel
theorem d_Mod_pattern_192 : decode b_Mod_pattern 192 = .ok (.iload_n 3, 1) := by decide +kernel
theorem d_Mod_pattern_193 : decode b_Mod_pattern 193 = .ok (.bipush 6, 2) := by decide +kernel
theorem d_Mod_pattern_195 : decode b_Mod_pattern 195 = .ok (.if_icmp .ge 24, 3) := by decide +kernel
theorem d_Mod_pattern_198 : decode b_Mod_pattern 198 = .ok (.aload_n 0, 1) := by decide +kernel
theorem d_Mod_pattern_199 : decode b_Mod_pattern 199 = .ok (.getfield 28, 3) := by decide +kernel
theorem d_Mod_pattern_202 : decode b_Mod_pattern 202 = .ok (.aload_n 0, 1) := by decide +kernel
theorem d_Mod_pattern_203 : decode b_Mod_pattern 203 = .ok (.getfield 122, 3) := by decide +kernel
theorem d_Mod_pattern_206 : decode b_Mod_pattern 206 = .ok (.bipush 6, 2) := by decide +kernel
theorem d_Mod_pattern_208 : decode b_Mod_pattern 208 = .ok (.imul, 1) := by decide +kernel
theorem d_Mod_pattern_209 : decode b_Mod_pattern 209 = .ok (.iload_n 3, 1) := by decide +kernel
theorem d_Mod_pattern_210 : decode b_Mod_pattern 210 = .ok (.iadd, 1) := by decide +kernel
theorem d_Mod_pattern_211 : decode b_Mod_pattern 211 = .ok (.iconst 0, 1) := by decide +kernel
theorem d_Mod_pattern_212 : decode b_Mod_pattern 212 = .ok (.iastore, 1) := by decide +kernel
theorem d_Mod_pattern_213 : decode b_Mod_pattern 213 = .ok (.iinc 3 1, 3) := by decide +kernel
theorem d_Mod_pattern_216 : decode b_Mod_pattern 216 = .ok (.goto (-24), 3) := by decide +kernel
theorem d_Mod_pattern_219 : decode b_Mod_pattern 219 = .ok (.iconst 0, 1) := by decide +kernel
theorem d_Mod_pattern_220 : decode b_Mod_pattern 220 = .ok (.istore_n 2, 1) := by decide +kernel
theorem d_Mod_pattern_221 : decode b_Mod_pattern 221 = .ok (.iconst 0, 1) := by decide +kernel
theorem d_Mod_pattern_222 : decode b_Mod_pattern 222 = .ok (.istore_n 3, 1) := by decide +kernel
theorem d_Mod_pattern_223 : decode b_Mod_pattern 223 = .ok (.iload_n 3, 1) := by decide +kernel
theorem d_Mod_pattern_224 : decode b_Mod_pattern 224 = .ok (.aload_n 0, 1) := by decide +kernel
theorem d_Mod_pattern_225 : decode b_Mod_pattern 225 = .ok (.getfield 118, 3) := by decide +kernel
theorem d_Mod_pattern_228 : decode b_Mod_pattern 228 = .ok (.if_icmp .ge 69, 3) := by decide +kernel
theorem d_Mod_pattern_231 : decode b_Mod_pattern 231 = .ok (.aload_n 0, 1) := by decide +kernel
theorem d_Mod_pattern_232 : decode b_Mod_pattern 232 = .ok (.getfield 7, 3) := by decide +kernel
theorem d_Mod_pattern_235 : decode b_Mod_pattern 235 = .ok (.iload_n 3, 1) := by decide +kernel
theorem d_Mod_pattern_236 : decode b_Mod_pattern 236 = .ok (.iaload, 1) := by decide +kernel
theorem d_Mod_pattern_237 : decode b_Mod_pattern 237 = .ok (.invokestatic 115, 3) := by decide +kernel
theorem d_Mod_pattern_240 : decode b_Mod_pattern 240 = .ok (.ifCond .eq 29, 3) := by decide +kernel
theorem d_Mod_pattern_243 : decode b_Mod_pattern 243 = .ok (.aload_n 0, 1) := by decide +kernel
theorem d_Mod_pattern_244 : decode b_Mod_pattern 244 = .ok (.getfield 28, 3) := by decide +kernel
theorem d_Mod_pattern_247 : decode b_Mod_pattern 247 = .ok (.aload_n 0, 1) := by decide +kernel
theorem d_Mod_pattern_248 : decode b_Mod_pattern 248 = .ok (.getfield 122, 3) := by decide +kernel
theorem d_Mod_pattern_251 : decode b_Mod_pattern 251 = .ok (.bipush 6, 2) := by decide +kernel
theorem d_Mod_pattern_253 : decode b_Mod_pattern 253 = .ok (.imul, 1) := by decide +kernel
theorem d_Mod_pattern_254 : decode b_Mod_pattern 254 = .ok (.iload_n 2, 1) := by decide +kernel
theorem d_Mod_pattern_255 : decode b_Mod_pattern 255 = .ok (.iadd, 1) := by decide +kernel
theorem d_Mod_pattern_256 : decode b_Mod_pattern 256 = .ok (.aload_n 0, 1) := by decide +kernel
theorem d_Mod_pattern_257 : decode b_Mod_pattern 257 = .ok (.getfield 7, 3) := by decide +kernel
theorem d_Mod_pattern_260 : decode b_Mod_pattern 260 = .ok (.iload_n 3, 1) := by decide +kernel
theorem d_Mod_pattern_261 : decode b_Mod_pattern 261 = .ok (.iaload, 1) := by decide +kernel
theorem d_Mod_pattern_262 : decode b_Mod_pattern 262 = .ok (.bipush 48, 2) := by decide +kernel
theorem d_Mod_pattern_264 : decode b_Mod_pattern 264 = .ok (.isub, 1) := by decide +kernel
theorem d_Mod_pattern_265 : decode b_Mod_pattern 265 = .ok (.iastore, 1) := by decide +kernel
theorem d_Mod_pattern_266 : decode b_Mod_pattern 266 = .ok (.goto 25, 3) := by decide +kernel
theorem d_Mod_pattern_269 : decode b_Mod_pattern 269 = .ok (.aload_n 0, 1) := by decide +kernel
theorem d_Mod_pattern_270 : decode b_Mod_pattern 270 = .ok (.getfield 25, 3) := by decide +kernel
theorem d_Mod_pattern_273 : decode b_Mod_pattern 273 = .ok (.aload_n 0, 1) := by decide +kernel
theorem d_Mod_pattern_274 : decode b_Mod_pattern 274 = .ok (.getfield 122, 3) := by decide +kernel
theorem d_Mod_pattern_277 : decode b_Mod_pattern 277 = .ok (.iconst 5, 1) := by decide +kernel
theorem d_Mod_pattern_278 : decode b_Mod_pattern 278 = .ok (.imul, 1) := by decide +kernel
theorem d_Mod_pattern_279 : decode b_Mod_pattern 279 = .ok (.iload_n 2, 1) := by decide +kernel
theorem d_Mod_pattern_280 : decode b_Mod_pattern 280 = .ok (.iadd, 1) := by decide +kernel
theorem d_Mod_pattern_281 : decode b_Mod_pattern 281 = .ok (.aload_n 0, 1) := by decide +kernel
theorem d_Mod_pattern_282 : decode b_Mod_pattern 282 = .ok (.getfield 7, 3) := by decide +kernel
theorem d_Mod_pattern_285 : decode b_Mod_pattern 285 = .ok (.iload_n 3, 1) := by decide +kernel
theorem d_Mod_pattern_286 : decode b_Mod_pattern 286 = .ok (.iaload, 1) := by decide +kernel
theorem d_Mod_pattern_287 : decode b_Mod_pattern 287 = .ok (.iastore, 1) := by decide +kernel
theorem d_Mod_pattern_288 : decode b_Mod_pattern 288 = .ok (.iinc 2 1, 3) := by decide +kernel
theorem d_Mod_pattern_291 : decode b_Mod_pattern 291 = .ok (.iinc 3 1, 3) := by decide +kernel
theorem d_Mod_pattern_294 : decode b_Mod_pattern 294 = .ok (.goto (-71), 3) := by decide +kernel
theorem d_Mod_pattern_297 : decode b_Mod_pattern 297 = .ok (.aload_n 0, 1) := by decide +kernel
theorem d_Mod_pattern_298 : decode b_Mod_pattern 298 = .ok (.getfield 31, 3) := by decide +kernel
theorem d_Mod_pattern_301 : decode b_Mod_pattern 301 = .ok (.aload_n 0, 1) := by decide +kernel
theorem d_Mod_pattern_302 : decode b_Mod_pattern 302 = .ok (.getfield 122, 3) := by decide +kernel
theorem d_Mod_pattern_305 : decode b_Mod_pattern 305 = .ok (.iload_n 1, 1) := by decide +kernel
theorem d_Mod_pattern_306 : decode b_Mod_pattern 306 = .ok (.iastore, 1) := by decide +kernel
theorem d_Mod_pattern_307 : decode b_Mod_pattern 307 = .ok (.aload_n 0, 1) := by decide +kernel
theorem d_Mod_pattern_308 : decode b_Mod_pattern 308 = .ok (.dup, 1) := by decide +kernel
theorem d_Mod_pattern_309 : decode b_Mod_pattern 309 = .ok (.getfield 122, 3) := by decide +kernel
theorem d_Mod_pattern_312 : decode b_Mod_pattern 312 = .ok (.iconst 1, 1) := by decide +kernel
theorem d_Mod_pattern_313 : decode b_Mod_pattern 313 = .ok (.iadd, 1) := by decide +kernel
theorem d_Mod_pattern_314 : decode b_Mod_pattern 314 = .ok (.putfield 122, 3) := by decide +kernel
theorem d_Mod_pattern_317 : decode b_Mod_pattern 317 = .ok (.aload_n 0, 1) := by decide +kernel
theorem d_Mod_pattern_318 : decode b_Mod_pattern 318 = .ok (.iconst 0, 1) := by decide +kernel
theorem d_Mod_pattern_319 : decode b_Mod_pattern 319 = .ok (.putfield 118, 3) := by decide +kernel
theorem d_Mod_pattern_322 : decode b_Mod_pattern 322 = .ok (.aload_n 0, 1) := by decide +kernel
theorem d_Mod_pattern_323 : decode b_Mod_pattern 323 = .ok (.getfield 122, 3) := by decide +kernel
theorem d_Mod_pattern_326 : decode b_Mod_pattern 326 = .ok (.ireturn, 1) := by decide +kernel
theorem d_Mod_paragraph_0 : decode b_Mod_paragraph 0 = .ok (.aload_n 0, 1) := by decide +kernel
theorem d_Mod_paragraph_1 : decode b_Mod_paragraph 1 = .ok (.invokevirtual 218, 3) := by decide +kernel
theorem d_Mod_paragraph_4 : decode b_Mod_paragraph 4 = .ok (.istore_n 1, 1) := by decide +kernel
theorem d_Mod_paragraph_5 : decode b_Mod_paragraph 5 = .ok (.aload_n 0, 1) := by decide +kernel
theorem d_Mod_paragraph_6 : decode b_Mod_paragraph 6 = .ok (.iconst 0, 1) := by decide +kernel
theorem d_Mod_paragraph_7 : decode b_Mod_paragraph 7 = .ok (.putfield 118, 3) := by decide +kernel
theorem d_Mod_paragraph_10 : decode b_Mod_paragraph 10 = .ok (.iload_n 1, 1) := by decide +kernel
theorem d_Mod_paragraph_11 : decode b_Mod_paragraph 11 = .ok (.ifCond .ge 5, 3) := by decide +kernel
theorem d_Mod_paragraph_14 : decode b_Mod_paragraph 14 = .ok (.iload_n 1, 1) := by decide +kernel
theorem d_Mod_paragraph_15 : decode b_Mod_paragraph 15 = .ok (.ireturn, 1) := by decide +kernel
theorem d_Mod_paragraph_16 : decode b_Mod_paragraph 16 = .ok (.aload_n 0, 1) := by decide +kernel
theorem d_Mod_paragraph_17 : decode b_Mod_paragraph 17 = .ok (.invokevirtual 221, 3) := by decide +kernel
theorem d_Mod_paragraph_20 : decode b_Mod_paragraph 20 = .ok (.aload_n 0, 1) := by decide +kernel
theorem d_Mod_paragraph_21 : decode b_Mod_paragraph 21 = .ok (.invokevirtual 224, 3) := by decide +kernel
theorem d_Mod_paragraph_24 : decode b_Mod_paragraph 24 = .ok (.aload_n 0, 1) := by decide +kernel
theorem d_Mod_paragraph_25 : decode b_Mod_paragraph 25 = .ok (.getfield 142, 3) := by decide +kernel
theorem d_Mod_paragraph_28 : decode b_Mod_paragraph 28 = .ok (.ifCond .le 31, 3) := by decide +kernel
theorem d_Mod_paragraph_31 : decode b_Mod_paragraph 31 = .ok (.aload_n 0, 1) := by decide +kernel
theorem d_Mod_paragraph_32 : decode b_Mod_paragraph 32 = .ok (.invokevirtual 227, 3) := by decide +kernel
theorem d_Mod_paragraph_35 : decode b_Mod_paragraph 35 = .ok (.ifCond .ne 6, 3) := by decide +kernel
theorem d_Mod_paragraph_38 : decode b_Mod_paragraph 38 = .ok (.bipush (-4), 2) := by decide +kernel
theorem d_Mod_paragraph_40 : decode b_Mod_paragraph 40 = .ok (.ireturn, 1) := by decide +kernel
theorem d_Mod_paragraph_41 : decode b_Mod_paragraph 41 = .ok (.aload_n 0, 1) := by decide +kernel
theorem d_Mod_paragraph_42 : decode b_Mod_paragraph 42 = .ok (.invokevirtual 230, 3) := by decide +kernel
theorem d_Mod_paragraph_45 : decode b_Mod_paragraph 45 = .ok (.aload_n 0, 1) := by decide +kernel
theorem d_Mod_paragraph_46 : decode b_Mod_paragraph 46 = .ok (.getfield 74, 3) := by decide +kernel
theorem d_Mod_paragraph_49 : decode b_Mod_paragraph 49 = .ok (.iconst 0, 1) := by decide +kernel
theorem d_Mod_paragraph_50 : decode b_Mod_paragraph 50 = .ok (.laload, 1) := by decide +kernel
theorem d_Mod_paragraph_51 : decode b_Mod_paragraph 51 = .ok (.lconst 0, 1) := by decide +kernel
theorem d_Mod_paragraph_52 : decode b_Mod_paragraph 52 = .ok (.lcmp, 1) := by decide +kernel
theorem d_Mod_paragraph_53 : decode b_Mod_paragraph 53 = .ok (.ifCond .ge 6, 3) := by decide +kernel
theorem d_Mod_paragraph_56 : decode b_Mod_paragraph 56 = .ok (.bipush (-5), 2) := by decide +kernel
theorem d_Mod_paragraph_58 : decode b_Mod_paragraph 58 = .ok (.ireturn, 1) := by decide +kernel
theorem d_Mod_paragraph_59 : decode b_Mod_paragraph 59 = .ok (.aload_n 0, 1) := by decide +kernel
theorem d_Mod_paragraph_60 : decode b_Mod_paragraph 60 = .ok (.invokevirtual 233, 3) := by decide +kernel
theorem d_Mod_paragraph_63 : decode b_Mod_paragraph 63 = .ok (.aload_n 0, 1) := by decide +kernel
theorem d_Mod_paragraph_64 : decode b_Mod_paragraph 64 = .ok (.getfield 199, 3) := by decide +kernel
theorem d_Mod_paragraph_67 : decode b_Mod_paragraph 67 = .ok (.ireturn, 1) := by decide +kernel
theorem d_Mod_expand_0 : decode b_Mod_expand 0 = .ok (.iconst 4, 1) := by decide +kernel
theorem d_Mod_expand_1 : decode b_Mod_expand 1 = .ok (.istore_n 1, 1) := by decide +kernel
theorem d_Mod_expand_2 : decode b_Mod_expand 2 = .ok (.iconst 0, 1) := by decide +kernel
theorem d_Mod_expand_3 : decode b_Mod_expand 3 = .ok (.istore_n 2, 1) := by decide +kernel
theorem d_Mod_expand_4 : decode b_Mod_expand 4 = .ok (.aload_n 0, 1) := by decide +kernel
theorem d_Mod_expand_5 : decode b_Mod_expand 5 = .ok (.aload_n 0, 1) := by decide +kernel
theorem d_Mod_expand_6 : decode b_Mod_expand 6 = .ok (.iconst 0, 1) := by decide +kernel
theorem d_Mod_expand_7 : decode b_Mod_expand 7 = .ok (.dup_x1, 1) := by decide +kernel
theorem d_Mod_expand_8 : decode b_Mod_expand 8 = .ok (.putfield 142, 3) := by decide +kernel
theorem d_Mod_expand_11 : decode b_Mod_expand 11 = .ok (.putfield 135, 3) := by decide +kernel
theorem d_Mod_expand_14 : decode b_Mod_expand 14 = .ok (.aload_n 0, 1) := by decide +kernel
theorem d_Mod_expand_15 : decode b_Mod_expand 15 = .ok (.aload_n 0, 1) := by decide +kernel
theorem d_Mod_expand_16 : decode b_Mod_expand 16 = .ok (.getfield 118, 3) := by decide +kernel
theorem d_Mod_expand_19 : decode b_Mod_expand 19 = .ok (.putfield 125, 3) := by decide +kernel
theorem d_Mod_expand_22 : decode b_Mod_expand 22 = .ok (.iconst 0, 1) := by decide +kernel
theorem d_Mod_expand_23 : decode b_Mod_expand 23 = .ok (.istore_n 3, 1) := by decide +kernel
theorem d_Mod_expand_24 : decode b_Mod_expand 24 = .ok (.iload_n 3, 1) := by decide +kernel
theorem d_Mod_expand_25 : decode b_Mod_expand 25 = .ok (.aload_n 0, 1) := by decide +kernel
theorem d_Mod_expand_26 : decode b_Mod_expand 26 = .ok (.getfield 118, 3) := by decide +kernel
theorem d_Mod_expand_29 : decode b_Mod_expand 29 = .ok (.if_icmp .ge 21, 3) := by decide +kernel
theorem d_Mod_expand_32 : decode b_Mod_expand 32 = .ok (.aload_n 0, 1) := by decide +kernel
theorem d_Mod_expand_33 : decode b_Mod_expand 33 = .ok (.getfield 34, 3) := by decide +kernel
theorem d_Mod_expand_36 : decode b_Mod_expand 36 = .ok (.iload_n 3, 1) := by decide +kernel
theorem d_Mod_expand_37 : decode b_Mod_expand 37 = .ok (.aload_n 0, 1) := by decide +kernel
theorem d_Mod_expand_38 : decode b_Mod_expand 38 = .ok (.getfield 7, 3) := by decide +kernel
theorem d_Mod_expand_41 : decode b_Mod_expand 41 = .ok (.iload_n 3, 1) := by decide +kernel
theorem d_Mod_expand_42 : decode b_Mod_expand 42 = .ok (.iaload, 1) := by decide +kernel
theorem d_Mod_expand_43 : decode b_Mod_expand 43 = .ok (.iastore, 1) := by decide +kernel
theorem d_Mod_expand_44 : decode b_Mod_expand 44 = .ok (.iinc 3 1, 3) := by decide +kernel
theorem d_Mod_expand_47 : decode b_Mod_expand 47 = .ok (.goto (-23), 3) := by decide +kernel
theorem d_Mod_expand_50 : decode b_Mod_expand 50 = .ok (.aload_n 0, 1) := by decide +kernel
theorem d_Mod_expand_51 : decode b_Mod_expand 51 = .ok (.invokevirtual 131, 3) := by decide +kernel
theorem d_Mod_expand_54 : decode b_Mod_expand 54 = .ok (.istore_n 3, 1) := by decide +kernel
theorem d_Mod_expand_55 : decode b_Mod_expand 55 = .ok (.iload_n 3, 1) := by decide +kernel
theorem d_Mod_expand_56 : decode b_Mod_expand 56 = .ok (.ifCond .lt 215, 3) := by decide +kernel
theorem d_Mod_expand_59 : decode b_Mod_expand 59 = .ok (.iconst 0, 1) := by decide +kernel
theorem d_Mod_expand_60 : decode b_Mod_expand 60 = .ok (.istore 4, 2) := by decide +kernel
theorem d_Mod_expand_62 : decode b_Mod_expand 62 = .ok (.iload_n 3, 1) := by decide +kernel
theorem d_Mod_expand_63 : decode b_Mod_expand 63 = .ok (.bipush 65, 2) := by decide +kernel
theorem d_Mod_expand_65 : decode b_Mod_expand 65 = .ok (.if_icmp .lt 22, 3) := by decide +kernel
theorem d_Mod_expand_68 : decode b_Mod_expand 68 = .ok (.iload_n 3, 1) := by decide +kernel
theorem d_Mod_expand_69 : decode b_Mod_expand 69 = .ok (.bipush 68, 2) := by decide +kernel
theorem d_Mod_expand_71 : decode b_Mod_expand 71 = .ok (.if_icmp .gt 16, 3) := by decide +kernel
theorem d_Mod_expand_74 : decode b_Mod_expand 74 = .ok (.aload_n 0, 1) := by decide +kernel
theorem d_Mod_expand_75 : decode b_Mod_expand 75 = .ok (.iload_n 3, 1) := by decide +kernel
theorem d_Mod_expand_76 : decode b_Mod_expand 76 = .ok (.bipush 65, 2) := by decide +kernel
theorem d_Mod_expand_78 : decode b_Mod_expand 78 = .ok (.isub, 1) := by decide +kernel
theorem d_Mod_expand_79 : decode b_Mod_expand 79 = .ok (.invokevirtual 145, 3) := by decide +kernel
theorem d_Mod_expand_82 : decode b_Mod_expand 82 = .ok (.istore 4, 2) := by decide +kernel
theorem d_Mod_expand_84 : decode b_Mod_expand 84 = .ok (.goto 171, 3) := by decide +kernel
theorem d_Mod_expand_87 : decode b_Mod_expand 87 = .ok (.iload_n 3, 1) := by decide +kernel
theorem d_Mod_expand_88 : decode b_Mod_expand 88 = .ok (.bipush 123, 2) := by decide +kernel
theorem d_Mod_expand_90 : decode b_Mod_expand 90 = .ok (.if_icmp .ne 25, 3) := by decide +kernel
theorem d_Mod_expand_93 : decode b_Mod_expand 93 = .ok (.iload_n 2, 1) := by decide +kernel
theorem d_Mod_expand_94 : decode b_Mod_expand 94 = .ok (.bipush 8, 2) := by decide +kernel
theorem d_Mod_expand_96 : decode b_Mod_expand 96 = .ok (.if_icmp .ne 6, 3) := by decide +kernel
theorem d_Mod_expand_99 : decode b_Mod_expand 99 = .ok (.bipush (-4), 2) := by decide +kernel
theorem d_Mod_expand_101 : decode b_Mod_expand 101 = .ok (.ireturn, 1) := by decide +kernel
theorem d_Mod_expand_102 : decode b_Mod_expand 102 = .ok (.aload_n 0, 1) := by decide +kernel
theorem d_Mod_expand_103 : decode b_Mod_expand 103 = .ok (.getfield 43, 3) := by decide +kernel
theorem d_Mod_expand_106 : decode b_Mod_expand 106 = .ok (.iload_n 2, 1) := by decide +kernel
theorem d_Mod_expand_107 : decode b_Mod_expand 107 = .ok (.iload_n 1, 1) := by decide +kernel
theorem d_Mod_expand_108 : decode b_Mod_expand 108 = .ok (.iastore, 1) := by decide +kernel
theorem d_Mod_expand_109 : decode b_Mod_expand 109 = .ok (.iinc 2 1, 3) := by decide +kernel
theorem d_Mod_expand_112 : decode b_Mod_expand 112 = .ok (.goto 143, 3) := by decide +kernel
theorem d_Mod_expand_115 : decode b_Mod_expand 115 = .ok (.iload_n 3, 1) := by decide +kernel
theorem d_Mod_expand_116 : decode b_Mod_expand 116 = .ok (.bipush 125, 2) := by decide +kernel
theorem d_Mod_expand_118 : decode b_Mod_expand 118 = .ok (.if_icmp .ne 23, 3) := by decide +kernel
theorem d_Mod_expand_121 : decode b_Mod_expand 121 = .ok (.iload_n 2, 1) := by decide +kernel
theorem d_Mod_expand_122 : decode b_Mod_expand 122 = .ok (.ifCond .ne 6, 3) := by decide +kernel
theorem d_Mod_expand_125 : decode b_Mod_expand 125 = .ok (.bipush (-3), 2) := by decide +kernel
theorem d_Mod_expand_127 : decode b_Mod_expand 127 = .ok (.ireturn, 1) := by decide +kernel
theorem d_Mod_expand_128 : decode b_Mod_expand 128 = .ok (.iinc 2 (-1), 3) := by decide +kernel
theorem d_Mod_expand_131 : decode b_Mod_expand 131 = .ok (.aload_n 0, 1) := by decide +kernel
theorem d_Mod_expand_132 : decode b_Mod_expand 132 = .ok (.getfield 43, 3) := by decide +kernel
theorem d_Mod_expand_135 : decode b_Mod_expand 135 = .ok (.iload_n 2, 1) := by decide +kernel
theorem d_Mod_expand_136 : decode b_Mod_expand 136 = .ok (.iaload, 1) := by decide +kernel
theorem d_Mod_expand_137 : decode b_Mod_expand 137 = .ok (.istore_n 1, 1) := by decide +kernel
theorem d_Mod_expand_138 : decode b_Mod_expand 138 = .ok (.goto 117, 3) := by decide +kernel
theorem d_Mod_expand_141 : decode b_Mod_expand 141 = .ok (.iload_n 3, 1) := by decide +kernel
theorem d_Mod_expand_142 : decode b_Mod_expand 142 = .ok (.bipush 61, 2) := by decide +kernel
theorem d_Mod_expand_144 : decode b_Mod_expand 144 = .ok (.if_icmp .ne 31, 3) := by decide +kernel
theorem d_Mod_expand_147 : decode b_Mod_expand 147 = .ok (.aload_n 0, 1) := by decide +kernel
theorem d_Mod_expand_148 : decode b_Mod_expand 148 = .ok (.invokevirtual 131, 3) := by decide +kernel
theorem d_Mod_expand_151 : decode b_Mod_expand 151 = .ok (.istore_n 3, 1) := by decide +kernel
theorem d_Mod_expand_152 : decode b_Mod_expand 152 = .ok (.iload_n 3, 1) := by decide +kernel
theorem d_Mod_expand_153 : decode b_Mod_expand 153 = .ok (.bipush 49, 2) := by decide +kernel
theorem d_Mod_expand_155 : decode b_Mod_expand 155 = .ok (.if_icmp .lt 9, 3) := by decide +kernel
theorem d_Mod_expand_158 : decode b_Mod_expand 158 = .ok (.iload_n 3, 1) := by decide +kernel
theorem d_Mod_expand_159 : decode b_Mod_expand 159 = .ok (.bipush 57, 2) := by decide +kernel
theorem d_Mod_expand_161 : decode b_Mod_expand 161 = .ok (.if_icmp .le 6, 3) := by decide +kernel
theorem d_Mod_expand_164 : decode b_Mod_expand 164 = .ok (.bipush (-3), 2) := by decide +kernel
theorem d_Mod_expand_166 : decode b_Mod_expand 166 = .ok (.ireturn, 1) := by decide +kernel
theorem d_Mod_expand_167 : decode b_Mod_expand 167 = .ok (.iload_n 3, 1) := by decide +kernel
theorem d_Mod_expand_168 : decode b_Mod_expand 168 = .ok (.bipush 48, 2) := by decide +kernel
theorem d_Mod_expand_170 : decode b_Mod_expand 170 = .ok (.isub, 1) := by decide +kernel
theorem d_Mod_expand_171 : decode b_Mod_expand 171 = .ok (.istore_n 1, 1) := by decide +kernel
theorem d_Mod_expand_172 : decode b_Mod_expand 172 = .ok (.goto 83, 3) := by decide +kernel
theorem d_Mod_expand_175 : decode b_Mod_expand 175 = .ok (.iload_n 3, 1) := by decide +kernel
theorem d_Mod_expand_176 : decode b_Mod_expand 176 = .ok (.bipush 35, 2) := by decide +kernel
theorem d_Mod_expand_178 : decode b_Mod_expand 178 = .ok (.if_icmp .eq 16, 3) := by decide +kernel
theorem d_Mod_expand_181 : decode b_Mod_expand 181 = .ok (.iload_n 3, 1) := by decide +kernel
theorem d_Mod_expand_182 : decode b_Mod_expand 182 = .ok (.bipush 46, 2) := by decide +kernel
theorem d_Mod_expand_184 : decode b_Mod_expand 184 = .ok (.if_icmp .eq 10, 3) := by decide +kernel
theorem d_Mod_expand_187 : decode b_Mod_expand 187 = .ok (.iload_n 3, 1) := by decide +kernel
theorem d_Mod_expand_188 : decode b_Mod_expand 188 = .ok (.invokestatic 115, 3) := by decide +kernel
theorem d_Mod_expand_191 : decode b_Mod_expand 191 = .ok (.ifCond .eq 6, 3) := by decide +kernel
theorem d_Mod_expand_194 : decode b_Mod_expand 194 = .ok (.bipush (-3), 2) := by decide +kernel
theorem d_Mod_expand_196 : decode b_Mod_expand 196 = .ok (.ireturn, 1) := by decide +kernel
theorem d_Mod_expand_197 : decode b_Mod_expand 197 = .ok (.aload_n 0, 1) := by decide +kernel
theorem d_Mod_expand_198 : decode b_Mod_expand 198 = .ok (.getfield 142, 3) := by decide +kernel
theorem d_Mod_expand_201 : decode b_Mod_expand 201 = .ok (.bipush 120, 2) := by decide +kernel
theorem d_Mod_expand_203 : decode b_Mod_expand 203 = .ok (.if_icmp .ne 6, 3) := by decide +kernel
theorem d_Mod_expand_206 : decode b_Mod_expand 206 = .ok (.bipush (-4), 2) := by decide +kernel
theorem d_Mod_expand_208 : decode b_Mod_expand 208 = .ok (.ireturn, 1) := by decide +kernel
theorem d_Mod_expand_209 : decode b_Mod_expand 209 = .ok (.aload_n 0, 1) := by decide +kernel
theorem d_Mod_expand_210 : decode b_Mod_expand 210 = .ok (.getfield 46, 3) := by decide +kernel
theorem d_Mod_expand_213 : decode b_Mod_expand 213 = .ok (.aload_n 0, 1) := by decide +kernel
theorem d_Mod_expand_214 : decode b_Mod_expand 214 = .ok (.getfield 142, 3) := by decide +kernel
theorem d_Mod_expand_217 : decode b_Mod_expand 217 = .ok (.iload_n 3, 1) := by decide +kernel
theorem d_Mod_expand_218 : decode b_Mod_expand 218 = .ok (.iastore, 1) := by decide +kernel
theorem d_Mod_expand_219 : decode b_Mod_expand 219 = .ok (.aload_n 0, 1) := by decide +kernel
theorem d_Mod_expand_220 : decode b_Mod_expand 220 = .ok (.getfield 49, 3) := by decide +kernel
theorem d_Mod_expand_223 : decode b_Mod_expand 223 = .ok (.aload_n 0, 1) := by decide +kernel
theorem d_Mod_expand_224 : decode b_Mod_expand 224 = .ok (.getfield 142, 3) := by decide +kernel
theorem d_Mod_expand_227 : decode b_Mod_expand 227 = .ok (.iload_n 3, 1) := by decide +kernel
theorem d_Mod_expand_228 : decode b_Mod_expand 228 = .ok (.bipush 32, 2) := by decide +kernel
theorem d_Mod_expand_230 : decode b_Mod_expand 230 = .ok (.if_icmp .eq 9, 3) := by decide +kernel
theorem d_Mod_expand_233 : decode b_Mod_expand 233 = .ok (.iload_n 3, 1) := by decide +kernel
theorem d_Mod_expand_234 : decode b_Mod_expand 234 = .ok (.bipush 126, 2) := by decide +kernel
theorem d_Mod_expand_236 : decode b_Mod_expand 236 = .ok (.if_icmp .ne 7, 3) := by decide +kernel
theorem d_Mod_expand_239 : decode b_Mod_expand 239 = .ok (.iload_n 1, 1) := by decide +kernel
theorem d_Mod_expand_240 : decode b_Mod_expand 240 = .ok (.goto 4, 3) := by decide +kernel
theorem d_Mod_expand_243 : decode b_Mod_expand 243 = .ok (.iconst 0, 1) := by decide +kernel
theorem d_Mod_expand_244 : decode b_Mod_expand 244 = .ok (.iastore, 1) := by decide +kernel
theorem d_Mod_expand_245 : decode b_Mod_expand 245 = .ok (.aload_n 0, 1) := by decide +kernel
theorem d_Mod_expand_246 : decode b_Mod_expand 246 = .ok (.dup, 1) := by decide +kernel
theorem d_Mod_expand_247 : decode b_Mod_expand 247 = .ok (.getfield 142, 3) := by decide +kernel
theorem d_Mod_expand_250 : decode b_Mod_expand 250 = .ok (.iconst 1, 1) := by decide +kernel
theorem d_Mod_expand_251 : decode b_Mod_expand 251 = .ok (.iadd, 1) := by decide +kernel
theorem d_Mod_expand_252 : decode b_Mod_expand 252 = .ok (.putfield 142, 3) := by decide +kernel
theorem d_Mod_expand_255 : decode b_Mod_expand 255 = .ok (.iload 4, 2) := by decide +kernel
theorem d_Mod_expand_257 : decode b_Mod_expand 257 = .ok (.ifCond .eq 6, 3) := by decide +kernel
theorem d_Mod_expand_260 : decode b_Mod_expand 260 = .ok (.iload 4, 2) := by decide +kernel
theorem d_Mod_expand_262 : decode b_Mod_expand 262 = .ok (.ireturn, 1) := by decide +kernel
theorem d_Mod_expand_263 : decode b_Mod_expand 263 = .ok (.aload_n 0, 1) := by decide +kernel
theorem d_Mod_expand_264 : decode b_Mod_expand 264 = .ok (.invokevirtual 131, 3) := by decide +kernel
theorem d_Mod_expand_267 : decode b_Mod_expand 267 = .ok (.istore_n 3, 1) := by decide +kernel
theorem d_Mod_expand_268 : decode b_Mod_expand 268 = .ok (.goto (-213), 3) := by decide +kernel
theorem d_Mod_expand_271 : decode b_Mod_expand 271 = .ok (.iload_n 2, 1) := by decide +kernel
theorem d_Mod_expand_272 : decode b_Mod_expand 272 = .ok (.ifCond .le 8, 3) := by decide +kernel
theorem d_Mod_expand_275 : decode b_Mod_expand 275 = .ok (.bipush (-3), 2) := by decide +kernel
theorem d_Mod_expand_277 : decode b_Mod_expand 277 = .ok (.goto 4, 3) := by decide +kernel
theorem d_Mod_expand_280 : decode b_Mod_expand 280 = .ok (.iconst 0, 1) := by decide +kernel
theorem d_Mod_expand_281 : decode b_Mod_expand 281 = .ok (.ireturn, 1) := by decide +kernel
theorem d_Mod_take_0 : decode b_Mod_take 0 = .ok (.aload_n 0, 1) := by decide +kernel
theorem d_Mod_take_1 : decode b_Mod_take 1 = .ok (.getfield 125, 3) := by decide +kernel
theorem d_Mod_take_4 : decode b_Mod_take 4 = .ok (.ifCond .ne 5, 3) := by decide +kernel
theorem d_Mod_take_7 : decode b_Mod_take 7 = .ok (.iconst (-1), 1) := by decide +kernel
theorem d_Mod_take_8 : decode b_Mod_take 8 = .ok (.ireturn, 1) := by decide +kernel
theorem d_Mod_take_9 : decode b_Mod_take 9 = .ok (.aload_n 0, 1) := by decide +kernel
theorem d_Mod_take_10 : decode b_Mod_take 10 = .ok (.getfield 34, 3) := by decide +kernel
theorem d_Mod_take_13 : decode b_Mod_take 13 = .ok (.iconst 0, 1) := by decide +kernel
theorem d_Mod_take_14 : decode b_Mod_take 14 = .ok (.iaload, 1) := by decide +kernel
theorem d_Mod_take_15 : decode b_Mod_take 15 = .ok (.istore_n 1, 1) := by decide +kernel
theorem d_Mod_take_16 : decode b_Mod_take 16 = .ok (.aload_n 0, 1) := by decide +kernel
theorem d_Mod_take_17 : decode b_Mod_take 17 = .ok (.dup, 1) := by decide +kernel
theorem d_Mod_take_18 : decode b_Mod_take 18 = .ok (.getfield 125, 3) := by decide +kernel
theorem d_Mod_take_21 : decode b_Mod_take 21 = .ok (.iconst 1, 1) := by decide +kernel
theorem d_Mod_take_22 : decode b_Mod_take 22 = .ok (.isub, 1) := by decide +kernel
theorem d_Mod_take_23 : decode b_Mod_take 23 = .ok (.putfield 125, 3) := by decide +kernel
theorem d_Mod_take_26 : decode b_Mod_take 26 = .ok (.iconst 0, 1) := by decide +kernel
theorem d_Mod_take_27 : decode b_Mod_take 27 = .ok (.istore_n 2, 1) := by decide +kernel
theorem d_Mod_take_28 : decode b_Mod_take 28 = .ok (.iload_n 2, 1) := by decide +kernel
theorem d_Mod_take_29 : decode b_Mod_take 29 = .ok (.aload_n 0, 1) := by decide +kernel
theorem d_Mod_take_30 : decode b_Mod_take 30 = .ok (.getfield 125, 3) := by decide +kernel
theorem d_Mod_take_33 : decode b_Mod_take 33 = .ok (.if_icmp .ge 23, 3) := by decide +kernel
theorem d_Mod_take_36 : decode b_Mod_take 36 = .ok (.aload_n 0, 1) := by decide +kernel
theorem d_Mod_take_37 : decode b_Mod_take 37 = .ok (.getfield 34, 3) := by decide +kernel
theorem d_Mod_take_40 : decode b_Mod_take 40 = .ok (.iload_n 2, 1) := by decide +kernel
theorem d_Mod_take_41 : decode b_Mod_take 41 = .ok (.aload_n 0, 1) := by decide +kernel
theorem d_Mod_take_42 : decode b_Mod_take 42 = .ok (.getfield 34, 3) := by decide +kernel
theorem d_Mod_take_45 : decode b_Mod_take 45 = .ok (.iload_n 2, 1) := by decide +kernel
theorem d_Mod_take_46 : decode b_Mod_take 46 = .ok (.iconst 1, 1) := by decide +kernel
theorem d_Mod_take_47 : decode b_Mod_take 47 = .ok (.iadd, 1) := by decide +kernel
theorem d_Mod_take_48 : decode b_Mod_take 48 = .ok (.iaload, 1) := by decide +kernel
theorem d_Mod_take_49 : decode b_Mod_take 49 = .ok (.iastore, 1) := by decide +kernel
theorem d_Mod_take_50 : decode b_Mod_take 50 = .ok (.iinc 2 1, 3) := by decide +kernel
theorem d_Mod_take_53 : decode b_Mod_take 53 = .ok (.goto (-25), 3) := by decide +kernel
theorem d_Mod_take_56 : decode b_Mod_take 56 = .ok (.iload_n 1, 1) := by decide +kernel
theorem d_Mod_take_57 : decode b_Mod_take 57 = .ok (.ireturn, 1) := by decide +kernel
theorem d_Mod_call_0 : decode b_Mod_call 0 = .ok (.aload_n 0, 1) := by decide +kernel
theorem d_Mod_call_1 : decode b_Mod_call 1 = .ok (.getfield 22, 3) := by decide +kernel
theorem d_Mod_call_4 : decode b_Mod_call 4 = .ok (.iload_n 1, 1) := by decide +kernel
theorem d_Mod_call_5 : decode b_Mod_call 5 = .ok (.iaload, 1) := by decide +kernel
theorem d_Mod_call_6 : decode b_Mod_call 6 = .ok (.ifCond .ge 6, 3) := by decide +kernel
theorem d_Mod_call_9 : decode b_Mod_call 9 = .ok (.bipush (-3), 2) := by decide +kernel
theorem d_Mod_call_11 : decode b_Mod_call 11 = .ok (.ireturn, 1) := by decide +kernel
theorem d_Mod_call_12 : decode b_Mod_call 12 = .ok (.aload_n 0, 1) := by decide +kernel
theorem d_Mod_call_13 : decode b_Mod_call 13 = .ok (.getfield 135, 3) := by decide +kernel
theorem d_Mod_call_16 : decode b_Mod_call 16 = .ok (.bipush 40, 2) := by decide +kernel
theorem d_Mod_call_18 : decode b_Mod_call 18 = .ok (.if_icmp .ne 6, 3) := by decide +kernel
theorem d_Mod_call_21 : decode b_Mod_call 21 = .ok (.bipush (-4), 2) := by decide +kernel
theorem d_Mod_call_23 : decode b_Mod_call 23 = .ok (.ireturn, 1) := by decide +kernel
theorem d_Mod_call_24 : decode b_Mod_call 24 = .ok (.aload_n 0, 1) := by decide +kernel
theorem d_Mod_call_25 : decode b_Mod_call 25 = .ok (.dup, 1) := by decide +kernel
theorem d_Mod_call_26 : decode b_Mod_call 26 = .ok (.getfield 135, 3) := by decide +kernel
theorem d_Mod_call_29 : decode b_Mod_call 29 = .ok (.iconst 1, 1) := by decide +kernel
theorem d_Mod_call_30 : decode b_Mod_call 30 = .ok (.iadd, 1) := by decide +kernel
theorem d_Mod_call_31 : decode b_Mod_call 31 = .ok (.putfield 135, 3) := by decide +kernel
theorem d_Mod_call_34 : decode b_Mod_call 34 = .ok (.iconst 0, 1) := by decide +kernel
theorem d_Mod_call_35 : decode b_Mod_call 35 = .ok (.istore_n 2, 1) := by decide +kernel
theorem d_Mod_call_36 : decode b_Mod_call 36 = .ok (.aload_n 0, 1) := by decide +kernel
theorem d_Mod_call_37 : decode b_Mod_call 37 = .ok (.getfield 22, 3) := by decide +kernel
theorem d_Mod_call_40 : decode b_Mod_call 40 = .ok (.iload_n 1, 1) := by decide +kernel
theorem d_Mod_call_41 : decode b_Mod_call 41 = .ok (.iaload, 1) := by decide +kernel
theorem d_Mod_call_42 : decode b_Mod_call 42 = .ok (.istore_n 3, 1) := by decide +kernel
theorem d_Mod_call_43 : decode b_Mod_call 43 = .ok (.iconst 0, 1) := by decide +kernel
theorem d_Mod_call_44 : decode b_Mod_call 44 = .ok (.istore 4, 2) := by decide +kernel
theorem d_Mod_call_46 : decode b_Mod_call 46 = .ok (.iload 4, 2) := by decide +kernel
theorem d_Mod_call_48 : decode b_Mod_call 48 = .ok (.iload_n 3, 1) := by decide +kernel
theorem d_Mod_call_49 : decode b_Mod_call 49 = .ok (.if_icmp .ge 29, 3) := by decide +kernel
theorem d_Mod_call_52 : decode b_Mod_call 52 = .ok (.aload_n 0, 1) := by decide +kernel
theorem d_Mod_call_53 : decode b_Mod_call 53 = .ok (.getfield 19, 3) := by decide +kernel
theorem d_Mod_call_56 : decode b_Mod_call 56 = .ok (.iload_n 1, 1) := by decide +kernel
theorem d_Mod_call_57 : decode b_Mod_call 57 = .ok (.bipush 24, 2) := by decide +kernel
theorem d_Mod_call_59 : decode b_Mod_call 59 = .ok (.imul, 1) := by decide +kernel
theorem d_Mod_call_60 : decode b_Mod_call 60 = .ok (.iload 4, 2) := by decide +kernel
theorem d_Mod_call_62 : decode b_Mod_call 62 = .ok (.iadd, 1) := by decide +kernel
theorem d_Mod_call_63 : decode b_Mod_call 63 = .ok (.iaload, 1) := by decide +kernel
theorem d_Mod_call_64 : decode b_Mod_call 64 = .ok (.bipush 35, 2) := by decide +kernel
theorem d_Mod_call_66 : decode b_Mod_call 66 = .ok (.if_icmp .ne 6, 3) := by decide +kernel
theorem d_Mod_call_69 : decode b_Mod_call 69 = .ok (.iinc 2 1, 3) := by decide +kernel
theorem d_Mod_call_72 : decode b_Mod_call 72 = .ok (.iinc 4 1, 3) := by decide +kernel
theorem d_Mod_call_75 : decode b_Mod_call 75 = .ok (.goto (-29), 3) := by decide +kernel
theorem d_Mod_call_78 : decode b_Mod_call 78 = .ok (.iload_n 2, 1) := by decide +kernel
theorem d_Mod_call_79 : decode b_Mod_call 79 = .ok (.ifCond .le 13, 3) := by decide +kernel
theorem d_Mod_call_82 : decode b_Mod_call 82 = .ok (.aload_n 0, 1) := by decide +kernel
theorem d_Mod_call_83 : decode b_Mod_call 83 = .ok (.invokevirtual 138, 3) := by decide +kernel
theorem d_Mod_call_86 : decode b_Mod_call 86 = .ok (.ifCond .ne 6, 3) := by decide +kernel
theorem d_Mod_call_89 : decode b_Mod_call 89 = .ok (.bipush (-3), 2) := by decide +kernel
theorem d_Mod_call_91 : decode b_Mod_call 91 = .ok (.ireturn, 1) := by decide +kernel
theorem d_Mod_call_92 : decode b_Mod_call 92 = .ok (.iload_n 2, 1) := by decide +kernel
theorem d_Mod_call_93 : decode b_Mod_call 93 = .ok (.ifCond .le 14, 3) := by decide +kernel
theorem d_Mod_call_96 : decode b_Mod_call 96 = .ok (.iload_n 3, 1) := by decide +kernel
theorem d_Mod_call_97 : decode b_Mod_call 97 = .ok (.iload_n 2, 1) := by decide +kernel
theorem d_Mod_call_98 : decode b_Mod_call 98 = .ok (.aload_n 0, 1) := by decide +kernel
theorem d_Mod_call_99 : decode b_Mod_call 99 = .ok (.getfield 128, 3) := by decide +kernel
theorem d_Mod_call_102 : decode b_Mod_call 102 = .ok (.iconst 1, 1) := by decide +kernel
theorem d_Mod_call_103 : decode b_Mod_call 103 = .ok (.isub, 1) := by decide +kernel
theorem d_Mod_call_104 : decode b_Mod_call 104 = .ok (.imul, 1) := by decide +kernel
theorem d_Mod_call_105 : decode b_Mod_call 105 = .ok (.iadd, 1) := by decide +kernel
theorem d_Mod_call_106 : decode b_Mod_call 106 = .ok (.istore_n 3, 1) := by decide +kernel
theorem d_Mod_call_107 : decode b_Mod_call 107 = .ok (.iload_n 3, 1) := by decide +kernel
theorem d_Mod_call_108 : decode b_Mod_call 108 = .ok (.aload_n 0, 1) := by decide +kernel
theorem d_Mod_call_109 : decode b_Mod_call 109 = .ok (.getfield 125, 3) := by decide +kernel
theorem d_Mod_call_112 : decode b_Mod_call 112 = .ok (.iadd, 1) := by decide +kernel
theorem d_Mod_call_113 : decode b_Mod_call 113 = .ok (.sipush 200, 3) := by decide +kernel
theorem d_Mod_call_116 : decode b_Mod_call 116 = .ok (.if_icmp .le 6, 3) := by decide +kernel
theorem d_Mod_call_119 : decode b_Mod_call 119 = .ok (.bipush (-4), 2) := by decide +kernel
theorem d_Mod_call_121 : decode b_Mod_call 121 = .ok (.ireturn, 1) := by decide +kernel
theorem d_Mod_call_122 : decode b_Mod_call 122 = .ok (.iconst 0, 1) := by decide +kernel
theorem d_Mod_call_123 : decode b_Mod_call 123 = .ok (.istore 4, 2) := by decide +kernel
theorem d_Mod_call_125 : decode b_Mod_call 125 = .ok (.iload 4, 2) := by decide +kernel
theorem d_Mod_call_127 : decode b_Mod_call 127 = .ok (.aload_n 0, 1) := by decide +kernel
theorem d_Mod_call_128 : decode b_Mod_call 128 = .ok (.getfield 125, 3) := by decide +kernel
theorem d_Mod_call_131 : decode b_Mod_call 131 = .ok (.if_icmp .ge 23, 3) := by decide +kernel
theorem d_Mod_call_134 : decode b_Mod_call 134 = .ok (.aload_n 0, 1) := by decide +kernel
theorem d_Mod_call_135 : decode b_Mod_call 135 = .ok (.getfield 37, 3) := by decide +kernel
theorem d_Mod_call_138 : decode b_Mod_call 138 = .ok (.iload 4, 2) := by decide +kernel
theorem d_Mod_call_140 : decode b_Mod_call 140 = .ok (.aload_n 0, 1) := by decide +kernel
theorem d_Mod_call_141 : decode b_Mod_call 141 = .ok (.getfield 34, 3) := by decide +kernel
theorem d_Mod_call_144 : decode b_Mod_call 144 = .ok (.iload 4, 2) := by decide +kernel
theorem d_Mod_call_146 : decode b_Mod_call 146 = .ok (.iaload, 1) := by decide +kernel
theorem d_Mod_call_147 : decode b_Mod_call 147 = .ok (.iastore, 1) := by decide +kernel
theorem d_Mod_call_148 : decode b_Mod_call 148 = .ok (.iinc 4 1, 3) := by decide +kernel
theorem d_Mod_call_151 : decode b_Mod_call 151 = .ok (.goto (-26), 3) := by decide +kernel
theorem d_Mod_call_154 : decode b_Mod_call 154 = .ok (.iconst 0, 1) := by decide +kernel
theorem d_Mod_call_155 : decode b_Mod_call 155 = .ok (.istore 4, 2) := by decide +kernel
theorem d_Mod_call_157 : decode b_Mod_call 157 = .ok (.iconst 0, 1) := by decide +kernel
theorem d_Mod_call_158 : decode b_Mod_call 158 = .ok (.istore 5, 2) := by decide +kernel
theorem d_Mod_call_160 : decode b_Mod_call 160 = .ok (.iload 5, 2) := by decide +kernel
theorem d_Mod_call_162 : decode b_Mod_call 162 = .ok (.aload_n 0, 1) := by decide +kernel
theorem d_Mod_call_163 : decode b_Mod_call 163 = .ok (.getfield 22, 3) := by decide +kernel
theorem d_Mod_call_166 : decode b_Mod_call 166 = .ok (.iload_n 1, 1) := by decide +kernel
theorem d_Mod_call_167 : decode b_Mod_call 167 = .ok (.iaload, 1) := by decide +kernel
theorem d_Mod_call_168 : decode b_Mod_call 168 = .ok (.if_icmp .ge 87, 3) := by decide +kernel
theorem d_Mod_call_171 : decode b_Mod_call 171 = .ok (.aload_n 0, 1) := by decide +kernel
theorem d_Mod_call_172 : decode b_Mod_call 172 = .ok (.getfield 19, 3) := by decide +kernel
theorem d_Mod_call_175 : decode b_Mod_call 175 = .ok (.iload_n 1, 1) := by decide +kernel
theorem d_Mod_call_176 : decode b_Mod_call 176 = .ok (.bipush 24, 2) := by decide +kernel
theorem d_Mod_call_178 : decode b_Mod_call 178 = .ok (.imul, 1) := by decide +kernel
theorem d_Mod_call_179 : decode b_Mod_call 179 = .ok (.iload 5, 2) := by decide +kernel
theorem d_Mod_call_181 : decode b_Mod_call 181 = .ok (.iadd, 1) := by decide +kernel
theorem d_Mod_call_182 : decode b_Mod_call 182 = .ok (.iaload, 1) := by decide +kernel
theorem d_Mod_call_183 : decode b_Mod_call 183 = .ok (.istore 6, 2) := by decide +kernel
theorem d_Mod_call_185 : decode b_Mod_call 185 = .ok (.iconst 0, 1) := by decide +kernel
theorem d_Mod_call_186 : decode b_Mod_call 186 = .ok (.istore 7, 2) := by decide +kernel
theorem d_Mod_call_188 : decode b_Mod_call 188 = .ok (.iload 6, 2) := by decide +kernel
theorem d_Mod_call_190 : decode b_Mod_call 190 = .ok (.bipush 35, 2) := by decide +kernel
theorem d_Mod_call_192 : decode b_Mod_call 192 = .ok (.if_icmp .ne 35, 3) := by decide +kernel
theorem d_Mod_call_195 : decode b_Mod_call 195 = .ok (.iload 7, 2) := by decide +kernel
theorem d_Mod_call_197 : decode b_Mod_call 197 = .ok (.aload_n 0, 1) := by decide +kernel
theorem d_Mod_call_198 : decode b_Mod_call 198 = .ok (.getfield 128, 3) := by decide +kernel
theorem d_Mod_call_201 : decode b_Mod_call 201 = .ok (.if_icmp .ge 26, 3) := by decide +kernel
theorem d_Mod_call_204 : decode b_Mod_call 204 = .ok (.aload_n 0, 1) := by decide +kernel
theorem d_Mod_call_205 : decode b_Mod_call 205 = .ok (.getfield 34, 3) := by decide +kernel
theorem d_Mod_call_208 : decode b_Mod_call 208 = .ok (.iload 4, 2) := by decide +kernel
theorem d_Mod_call_210 : decode b_Mod_call 210 = .ok (.aload_n 0, 1) := by decide +kernel
theorem d_Mod_call_211 : decode b_Mod_call 211 = .ok (.getfield 40, 3) := by decide +kernel
theorem d_Mod_call_214 : decode b_Mod_call 214 = .ok (.iload 7, 2) := by decide +kernel
theorem d_Mod_call_216 : decode b_Mod_call 216 = .ok (.iaload, 1) := by decide +kernel
theorem d_Mod_call_217 : decode b_Mod_call 217 = .ok (.iastore, 1) := by decide +kernel
theorem d_Mod_call_218 : decode b_Mod_call 218 = .ok (.iinc 4 1, 3) := by decide +kernel
theorem d_Mod_call_221 : decode b_Mod_call 221 = .ok (.iinc 7 1, 3) := by decide +kernel
theorem d_Mod_call_224 : decode b_Mod_call 224 = .ok (.goto (-36), 3) := by decide +kernel
theorem d_Mod_call_227 : decode b_Mod_call 227 = .ok (.iload 6, 2) := by decide +kernel
theorem d_Mod_call_229 : decode b_Mod_call 229 = .ok (.bipush 35, 2) := by decide +kernel
theorem d_Mod_call_231 : decode b_Mod_call 231 = .ok (.if_icmp .ne 6, 3) := by decide +kernel
theorem d_Mod_call_234 : decode b_Mod_call 234 = .ok (.goto 15, 3) := by decide +kernel
theorem d_Mod_call_237 : decode b_Mod_call 237 = .ok (.aload_n 0, 1) := by decide +kernel
theorem d_Mod_call_238 : decode b_Mod_call 238 = .ok (.getfield 34, 3) := by decide +kernel
theorem d_Mod_call_241 : decode b_Mod_call 241 = .ok (.iload 4, 2) := by decide +kernel
theorem d_Mod_call_243 : decode b_Mod_call 243 = .ok (.iload 6, 2) := by decide +kernel
theorem d_Mod_call_245 : decode b_Mod_call 245 = .ok (.iastore, 1) := by decide +kernel
theorem d_Mod_call_246 : decode b_Mod_call 246 = .ok (.iinc 4 1, 3) := by decide +kernel
theorem d_Mod_call_249 : decode b_Mod_call 249 = .ok (.iinc 5 1, 3) := by decide +kernel
theorem d_Mod_call_252 : decode b_Mod_call 252 = .ok (.goto (-92), 3) := by decide +kernel
theorem d_Mod_call_255 : decode b_Mod_call 255 = .ok (.iconst 0, 1) := by decide +kernel
theorem d_Mod_call_256 : decode b_Mod_call 256 = .ok (.istore 5, 2) := by decide +kernel
theorem d_Mod_call_258 : decode b_Mod_call 258 = .ok (.iload 5, 2) := by decide +kernel
theorem d_Mod_call_260 : decode b_Mod_call 260 = .ok (.aload_n 0, 1) := by decide +kernel
theorem d_Mod_call_261 : decode b_Mod_call 261 = .ok (.getfield 125, 3) := by decide +kernel
theorem d_Mod_call_264 : decode b_Mod_call 264 = .ok (.if_icmp .ge 26, 3) := by decide +kernel
theorem d_Mod_call_267 : decode b_Mod_call 267 = .ok (.aload_n 0, 1) := by decide +kernel
theorem d_Mod_call_268 : decode b_Mod_call 268 = .ok (.getfield 34, 3) := by decide +kernel
theorem d_Mod_call_271 : decode b_Mod_call 271 = .ok (.iload 4, 2) := by decide +kernel
theorem d_Mod_call_273 : decode b_Mod_call 273 = .ok (.iload 5, 2) := by decide +kernel
theorem d_Mod_call_275 : decode b_Mod_call 275 = .ok (.iadd, 1) := by decide +kernel
theorem d_Mod_call_276 : decode b_Mod_call 276 = .ok (.aload_n 0, 1) := by decide +kernel
theorem d_Mod_call_277 : decode b_Mod_call 277 = .ok (.getfield 37, 3) := by decide +kernel
theorem d_Mod_call_280 : decode b_Mod_call 280 = .ok (.iload 5, 2) := by decide +kernel
theorem d_Mod_call_282 : decode b_Mod_call 282 = .ok (.iaload, 1) := by decide +kernel
theorem d_Mod_call_283 : decode b_Mod_call 283 = .ok (.iastore, 1) := by decide +kernel
theorem d_Mod_call_284 : decode b_Mod_call 284 = .ok (.iinc 5 1, 3) := by decide +kernel
theorem d_Mod_call_287 : decode b_Mod_call 287 = .ok (.goto (-29), 3) := by decide +kernel
theorem d_Mod_call_290 : decode b_Mod_call 290 = .ok (.aload_n 0, 1) := by decide +kernel
theorem d_Mod_call_291 : decode b_Mod_call 291 = .ok (.dup, 1) := by decide +kernel
theorem d_Mod_call_292 : decode b_Mod_call 292 = .ok (.getfield 125, 3) := by decide +kernel
theorem d_Mod_call_295 : decode b_Mod_call 295 = .ok (.iload 4, 2) := by decide +kernel
theorem d_Mod_call_297 : decode b_Mod_call 297 = .ok (.iadd, 1) := by decide +kernel
theorem d_Mod_call_298 : decode b_Mod_call 298 = .ok (.putfield 125, 3) := by decide +kernel
theorem d_Mod_call_301 : decode b_Mod_call 301 = .ok (.iconst 0, 1) := by decide +kernel
theorem d_Mod_call_302 : decode b_Mod_call 302 = .ok (.ireturn, 1) := by decide +kernel
theorem d_Mod_takeArgument_0 : decode b_Mod_takeArgument 0 = .ok (.aload_n 0, 1) := by decide +kernel
theorem d_Mod_takeArgument_1 : decode b_Mod_takeArgument 1 = .ok (.iconst 0, 1) := by decide +kernel
theorem d_Mod_takeArgument_2 : decode b_Mod_takeArgument 2 = .ok (.putfield 128, 3) := by decide +kernel
theorem d_Mod_takeArgument_5 : decode b_Mod_takeArgument 5 = .ok (.aload_n 0, 1) := by decide +kernel
theorem d_Mod_takeArgument_6 : decode b_Mod_takeArgument 6 = .ok (.invokevirtual 131, 3) := by decide +kernel
theorem d_Mod_takeArgument_9 : decode b_Mod_takeArgument 9 = .ok (.istore_n 1, 1) := by decide +kernel
theorem d_Mod_takeArgument_10 : decode b_Mod_takeArgument 10 = .ok (.iload_n 1, 1) := by decide +kernel
theorem d_Mod_takeArgument_11 : decode b_Mod_takeArgument 11 = .ok (.ifCond .lt 9, 3) := by decide +kernel
theorem d_Mod_takeArgument_14 : decode b_Mod_takeArgument 14 = .ok (.iload_n 1, 1) := by decide +kernel
theorem d_Mod_takeArgument_15 : decode b_Mod_takeArgument 15 = .ok (.bipush 125, 2) := by decide +kernel
theorem d_Mod_takeArgument_17 : decode b_Mod_takeArgument 17 = .ok (.if_icmp .ne 5, 3) := by decide +kernel
theorem d_Mod_takeArgument_20 : decode b_Mod_takeArgument 20 = .ok (.iconst 0, 1) := by decide +kernel
theorem d_Mod_takeArgument_21 : decode b_Mod_takeArgument 21 = .ok (.ireturn, 1) := by decide +kernel
theorem d_Mod_takeArgument_22 : decode b_Mod_takeArgument 22 = .ok (.iload_n 1, 1) := by decide +kernel
theorem d_Mod_takeArgument_23 : decode b_Mod_takeArgument 23 = .ok (.bipush 123, 2) := by decide +kernel
theorem d_Mod_takeArgument_25 : decode b_Mod_takeArgument 25 = .ok (.if_icmp .eq 17, 3) := by decide +kernel
theorem d_Mod_takeArgument_28 : decode b_Mod_takeArgument 28 = .ok (.aload_n 0, 1) := by decide +kernel
theorem d_Mod_takeArgument_29 : decode b_Mod_takeArgument 29 = .ok (.getfield 40, 3) := by decide +kernel
theorem d_Mod_takeArgument_32 : decode b_Mod_takeArgument 32 = .ok (.iconst 0, 1) := by decide +kernel
theorem d_Mod_takeArgument_33 : decode b_Mod_takeArgument 33 = .ok (.iload_n 1, 1) := by decide +kernel
theorem d_Mod_takeArgument_34 : decode b_Mod_takeArgument 34 = .ok (.iastore, 1) := by decide +kernel
theorem d_Mod_takeArgument_35 : decode b_Mod_takeArgument 35 = .ok (.aload_n 0, 1) := by decide +kernel
theorem d_Mod_takeArgument_36 : decode b_Mod_takeArgument 36 = .ok (.iconst 1, 1) := by decide +kernel
theorem d_Mod_takeArgument_37 : decode b_Mod_takeArgument 37 = .ok (.putfield 128, 3) := by decide +kernel
theorem d_Mod_takeArgument_40 : decode b_Mod_takeArgument 40 = .ok (.iconst 1, 1) := by decide +kernel
theorem d_Mod_takeArgument_41 : decode b_Mod_takeArgument 41 = .ok (.ireturn, 1) := by decide +kernel
theorem d_Mod_takeArgument_42 : decode b_Mod_takeArgument 42 = .ok (.iconst 1, 1) := by decide +kernel
theorem d_Mod_takeArgument_43 : decode b_Mod_takeArgument 43 = .ok (.istore_n 2, 1) := by decide +kernel
theorem d_Mod_takeArgument_44 : decode b_Mod_takeArgument 44 = .ok (.iconst 0, 1) := by decide +kernel
theorem d_Mod_takeArgument_45 : decode b_Mod_takeArgument 45 = .ok (.istore_n 3, 1) := by decide +kernel
theorem d_Mod_takeArgument_46 : decode b_Mod_takeArgument 46 = .ok (.iload_n 3, 1) := by decide +kernel
theorem d_Mod_takeArgument_47 : decode b_Mod_takeArgument 47 = .ok (.sipush 201, 3) := by decide +kernel
theorem d_Mod_takeArgument_50 : decode b_Mod_takeArgument 50 = .ok (.if_icmp .ge 64, 3) := by decide +kernel
theorem d_Mod_takeArgument_53 : decode b_Mod_takeArgument 53 = .ok (.aload_n 0, 1) := by decide +kernel
theorem d_Mod_takeArgument_54 : decode b_Mod_takeArgument 54 = .ok (.invokevirtual 131, 3) := by decide +kernel
theorem d_Mod_takeArgument_57 : decode b_Mod_takeArgument 57 = .ok (.istore_n 1, 1) := by decide +kernel
theorem d_Mod_takeArgument_58 : decode b_Mod_takeArgument 58 = .ok (.iload_n 1, 1) := by decide +kernel
theorem d_Mod_takeArgument_59 : decode b_Mod_takeArgument 59 = .ok (.ifCond .ge 5, 3) := by decide +kernel
theorem d_Mod_takeArgument_62 : decode b_Mod_takeArgument 62 = .ok (.iconst 0, 1) := by decide +kernel
theorem d_Mod_takeArgument_63 : decode b_Mod_takeArgument 63 = .ok (.ireturn, 1) := by decide +kernel
theorem d_Mod_takeArgument_64 : decode b_Mod_takeArgument 64 = .ok (.iload_n 1, 1) := by decide +kernel
theorem d_Mod_takeArgument_65 : decode b_Mod_takeArgument 65 = .ok (.bipush 123, 2) := by decide +kernel
theorem d_Mod_takeArgument_67 : decode b_Mod_takeArgument 67 = .ok (.if_icmp .ne 6, 3) := by decide +kernel
theorem d_Mod_takeArgument_70 : decode b_Mod_takeArgument 70 = .ok (.iinc 2 1, 3) := by decide +kernel
theorem d_Mod_takeArgument_73 : decode b_Mod_takeArgument 73 = .ok (.iload_n 1, 1) := by decide +kernel
theorem d_Mod_takeArgument_74 : decode b_Mod_takeArgument 74 = .ok (.bipush 125, 2) := by decide +kernel
theorem d_Mod_takeArgument_76 : decode b_Mod_takeArgument 76 = .ok (.if_icmp .ne 6, 3) := by decide +kernel
theorem d_Mod_takeArgument_79 : decode b_Mod_takeArgument 79 = .ok (.iinc 2 (-1), 3) := by decide +kernel
theorem d_Mod_takeArgument_82 : decode b_Mod_takeArgument 82 = .ok (.iload_n 2, 1) := by decide +kernel
theorem d_Mod_takeArgument_83 : decode b_Mod_takeArgument 83 = .ok (.ifCond .ne 5, 3) := by decide +kernel
theorem d_Mod_takeArgument_86 : decode b_Mod_takeArgument 86 = .ok (.iconst 1, 1) := by decide +kernel
theorem d_Mod_takeArgument_87 : decode b_Mod_takeArgument 87 = .ok (.ireturn, 1) := by decide +kernel
theorem d_Mod_takeArgument_88 : decode b_Mod_takeArgument 88 = .ok (.aload_n 0, 1) := by decide +kernel
theorem d_Mod_takeArgument_89 : decode b_Mod_takeArgument 89 = .ok (.getfield 40, 3) := by decide +kernel
theorem d_Mod_takeArgument_92 : decode b_Mod_takeArgument 92 = .ok (.aload_n 0, 1) := by decide +kernel
theorem d_Mod_takeArgument_93 : decode b_Mod_takeArgument 93 = .ok (.getfield 128, 3) := by decide +kernel
theorem d_Mod_takeArgument_96 : decode b_Mod_takeArgument 96 = .ok (.iload_n 1, 1) := by decide +kernel
theorem d_Mod_takeArgument_97 : decode b_Mod_takeArgument 97 = .ok (.iastore, 1) := by decide +kernel
theorem d_Mod_takeArgument_98 : decode b_Mod_takeArgument 98 = .ok (.aload_n 0, 1) := by decide +kernel
theorem d_Mod_takeArgument_99 : decode b_Mod_takeArgument 99 = .ok (.dup, 1) := by decide +kernel
theorem d_Mod_takeArgument_100 : decode b_Mod_takeArgument 100 = .ok (.getfield 128, 3) := by decide +kernel
theorem d_Mod_takeArgument_103 : decode b_Mod_takeArgument 103 = .ok (.iconst 1, 1) := by decide +kernel
theorem d_Mod_takeArgument_104 : decode b_Mod_takeArgument 104 = .ok (.iadd, 1) := by decide +kernel
theorem d_Mod_takeArgument_105 : decode b_Mod_takeArgument 105 = .ok (.putfield 128, 3) := by decide +kernel
theorem d_Mod_takeArgument_108 : decode b_Mod_takeArgument 108 = .ok (.iinc 3 1, 3) := by decide +kernel
theorem d_Mod_takeArgument_111 : decode b_Mod_takeArgument 111 = .ok (.goto (-65), 3) := by decide +kernel
theorem d_Mod_takeArgument_114 : decode b_Mod_takeArgument 114 = .ok (.iconst 0, 1) := by decide +kernel
theorem d_Mod_takeArgument_115 : decode b_Mod_takeArgument 115 = .ok (.ireturn, 1) := by decide +kernel
theorem d_Mod_clean_0 : decode b_Mod_clean 0 = .ok (.iconst 0, 1) := by decide +kernel
theorem d_Mod_clean_1 : decode b_Mod_clean 1 = .ok (.istore_n 1, 1) := by decide +kernel
theorem d_Mod_clean_2 : decode b_Mod_clean 2 = .ok (.iload_n 1, 1) := by decide +kernel
theorem d_Mod_clean_3 : decode b_Mod_clean 3 = .ok (.aload_n 0, 1) := by decide +kernel
theorem d_Mod_clean_4 : decode b_Mod_clean 4 = .ok (.getfield 142, 3) := by decide +kernel
theorem d_Mod_clean_7 : decode b_Mod_clean 7 = .ok (.if_icmp .ge 68, 3) := by decide +kernel
theorem d_Mod_clean_10 : decode b_Mod_clean 10 = .ok (.iload_n 1, 1) := by decide +kernel
theorem d_Mod_clean_11 : decode b_Mod_clean 11 = .ok (.ifCond .eq 29, 3) := by decide +kernel
theorem d_Mod_clean_14 : decode b_Mod_clean 14 = .ok (.aload_n 0, 1) := by decide +kernel
theorem d_Mod_clean_15 : decode b_Mod_clean 15 = .ok (.getfield 46, 3) := by decide +kernel
theorem d_Mod_clean_18 : decode b_Mod_clean 18 = .ok (.iload_n 1, 1) := by decide +kernel
theorem d_Mod_clean_19 : decode b_Mod_clean 19 = .ok (.iconst 1, 1) := by decide +kernel
theorem d_Mod_clean_20 : decode b_Mod_clean 20 = .ok (.isub, 1) := by decide +kernel
theorem d_Mod_clean_21 : decode b_Mod_clean 21 = .ok (.iaload, 1) := by decide +kernel
theorem d_Mod_clean_22 : decode b_Mod_clean 22 = .ok (.bipush 32, 2) := by decide +kernel
theorem d_Mod_clean_24 : decode b_Mod_clean 24 = .ok (.if_icmp .eq 16, 3) := by decide +kernel
theorem d_Mod_clean_27 : decode b_Mod_clean 27 = .ok (.aload_n 0, 1) := by decide +kernel
theorem d_Mod_clean_28 : decode b_Mod_clean 28 = .ok (.getfield 46, 3) := by decide +kernel
theorem d_Mod_clean_31 : decode b_Mod_clean 31 = .ok (.iload_n 1, 1) := by decide +kernel
theorem d_Mod_clean_32 : decode b_Mod_clean 32 = .ok (.iconst 1, 1) := by decide +kernel
theorem d_Mod_clean_33 : decode b_Mod_clean 33 = .ok (.isub, 1) := by decide +kernel
theorem d_Mod_clean_34 : decode b_Mod_clean 34 = .ok (.iaload, 1) := by decide +kernel
theorem d_Mod_clean_35 : decode b_Mod_clean 35 = .ok (.bipush 124, 2) := by decide +kernel
theorem d_Mod_clean_37 : decode b_Mod_clean 37 = .ok (.if_icmp .ne 7, 3) := by decide +kernel
theorem d_Mod_clean_40 : decode b_Mod_clean 40 = .ok (.iconst 1, 1) := by decide +kernel
theorem d_Mod_clean_41 : decode b_Mod_clean 41 = .ok (.goto 4, 3) := by decide +kernel
theorem d_Mod_clean_44 : decode b_Mod_clean 44 = .ok (.iconst 0, 1) := by decide +kernel
theorem d_Mod_clean_45 : decode b_Mod_clean 45 = .ok (.istore_n 2, 1) := by decide +kernel
theorem d_Mod_clean_46 : decode b_Mod_clean 46 = .ok (.aload_n 0, 1) := by decide +kernel
theorem d_Mod_clean_47 : decode b_Mod_clean 47 = .ok (.getfield 46, 3) := by decide +kernel
theorem d_Mod_clean_50 : decode b_Mod_clean 50 = .ok (.iload_n 1, 1) := by decide +kernel
theorem d_Mod_clean_51 : decode b_Mod_clean 51 = .ok (.iaload, 1) := by decide +kernel
theorem d_Mod_clean_52 : decode b_Mod_clean 52 = .ok (.bipush 32, 2) := by decide +kernel
theorem d_Mod_clean_54 : decode b_Mod_clean 54 = .ok (.if_icmp .ne 15, 3) := by decide +kernel
theorem d_Mod_clean_57 : decode b_Mod_clean 57 = .ok (.iload_n 2, 1) := by decide +kernel
theorem d_Mod_clean_58 : decode b_Mod_clean 58 = .ok (.ifCond .eq 11, 3) := by decide +kernel
theorem d_Mod_clean_61 : decode b_Mod_clean 61 = .ok (.aload_n 0, 1) := by decide +kernel
theorem d_Mod_clean_62 : decode b_Mod_clean 62 = .ok (.iload_n 1, 1) := by decide +kernel
theorem d_Mod_clean_63 : decode b_Mod_clean 63 = .ok (.invokevirtual 149, 3) := by decide +kernel
theorem d_Mod_clean_66 : decode b_Mod_clean 66 = .ok (.goto 6, 3) := by decide +kernel
theorem d_Mod_clean_69 : decode b_Mod_clean 69 = .ok (.iinc 1 1, 3) := by decide +kernel
theorem d_Mod_clean_72 : decode b_Mod_clean 72 = .ok (.goto (-70), 3) := by decide +kernel
theorem d_Mod_clean_75 : decode b_Mod_clean 75 = .ok (.aload_n 0, 1) := by decide +kernel
theorem d_Mod_clean_76 : decode b_Mod_clean 76 = .ok (.getfield 142, 3) := by decide +kernel
theorem d_Mod_clean_79 : decode b_Mod_clean 79 = .ok (.iconst 1, 1) := by decide +kernel
theorem d_Mod_clean_80 : decode b_Mod_clean 80 = .ok (.isub, 1) := by decide +kernel
theorem d_Mod_clean_81 : decode b_Mod_clean 81 = .ok (.istore_n 1, 1) := by decide +kernel
theorem d_Mod_clean_82 : decode b_Mod_clean 82 = .ok (.iload_n 1, 1) := by decide +kernel
theorem d_Mod_clean_83 : decode b_Mod_clean 83 = .ok (.ifCond .lt 48, 3) := by decide +kernel
theorem d_Mod_clean_86 : decode b_Mod_clean 86 = .ok (.aload_n 0, 1) := by decide +kernel
theorem d_Mod_clean_87 : decode b_Mod_clean 87 = .ok (.getfield 46, 3) := by decide +kernel
theorem d_Mod_clean_90 : decode b_Mod_clean 90 = .ok (.iload_n 1, 1) := by decide +kernel
theorem d_Mod_clean_91 : decode b_Mod_clean 91 = .ok (.iaload, 1) := by decide +kernel
theorem d_Mod_clean_92 : decode b_Mod_clean 92 = .ok (.bipush 32, 2) := by decide +kernel
theorem d_Mod_clean_94 : decode b_Mod_clean 94 = .ok (.if_icmp .ne 31, 3) := by decide +kernel
theorem d_Mod_clean_97 : decode b_Mod_clean 97 = .ok (.iload_n 1, 1) := by decide +kernel
theorem d_Mod_clean_98 : decode b_Mod_clean 98 = .ok (.aload_n 0, 1) := by decide +kernel
theorem d_Mod_clean_99 : decode b_Mod_clean 99 = .ok (.getfield 142, 3) := by decide +kernel
theorem d_Mod_clean_102 : decode b_Mod_clean 102 = .ok (.iconst 1, 1) := by decide +kernel
theorem d_Mod_clean_103 : decode b_Mod_clean 103 = .ok (.isub, 1) := by decide +kernel
theorem d_Mod_clean_104 : decode b_Mod_clean 104 = .ok (.if_icmp .eq 16, 3) := by decide +kernel
theorem d_Mod_clean_107 : decode b_Mod_clean 107 = .ok (.aload_n 0, 1) := by decide +kernel
theorem d_Mod_clean_108 : decode b_Mod_clean 108 = .ok (.getfield 46, 3) := by decide +kernel
theorem d_Mod_clean_111 : decode b_Mod_clean 111 = .ok (.iload_n 1, 1) := by decide +kernel
theorem d_Mod_clean_112 : decode b_Mod_clean 112 = .ok (.iconst 1, 1) := by decide +kernel
theorem d_Mod_clean_113 : decode b_Mod_clean 113 = .ok (.iadd, 1) := by decide +kernel
theorem d_Mod_clean_114 : decode b_Mod_clean 114 = .ok (.iaload, 1) := by decide +kernel
theorem d_Mod_clean_115 : decode b_Mod_clean 115 = .ok (.bipush 124, 2) := by decide +kernel
theorem d_Mod_clean_117 : decode b_Mod_clean 117 = .ok (.if_icmp .ne 8, 3) := by decide +kernel
theorem d_Mod_clean_120 : decode b_Mod_clean 120 = .ok (.aload_n 0, 1) := by decide +kernel
theorem d_Mod_clean_121 : decode b_Mod_clean 121 = .ok (.iload_n 1, 1) := by decide +kernel
theorem d_Mod_clean_122 : decode b_Mod_clean 122 = .ok (.invokevirtual 149, 3) := by decide +kernel
theorem d_Mod_clean_125 : decode b_Mod_clean 125 = .ok (.iinc 1 (-1), 3) := by decide +kernel
theorem d_Mod_clean_128 : decode b_Mod_clean 128 = .ok (.goto (-46), 3) := by decide +kernel
theorem d_Mod_clean_131 : decode b_Mod_clean 131 = .ok (.iconst 0, 1) := by decide +kernel
theorem d_Mod_clean_132 : decode b_Mod_clean 132 = .ok (.istore_n 1, 1) := by decide +kernel
theorem d_Mod_clean_133 : decode b_Mod_clean 133 = .ok (.iload_n 1, 1) := by decide +kernel
theorem d_Mod_clean_134 : decode b_Mod_clean 134 = .ok (.aload_n 0, 1) := by decide +kernel
theorem d_Mod_clean_135 : decode b_Mod_clean 135 = .ok (.getfield 142, 3) := by decide +kernel
theorem d_Mod_clean_138 : decode b_Mod_clean 138 = .ok (.if_icmp .ge 55, 3) := by decide +kernel
theorem d_Mod_clean_141 : decode b_Mod_clean 141 = .ok (.iload_n 1, 1) := by decide +kernel
theorem d_Mod_clean_142 : decode b_Mod_clean 142 = .ok (.ifCond .eq 16, 3) := by decide +kernel
theorem d_Mod_clean_145 : decode b_Mod_clean 145 = .ok (.aload_n 0, 1) := by decide +kernel
theorem d_Mod_clean_146 : decode b_Mod_clean 146 = .ok (.getfield 46, 3) := by decide +kernel
theorem d_Mod_clean_149 : decode b_Mod_clean 149 = .ok (.iload_n 1, 1) := by decide +kernel
theorem d_Mod_clean_150 : decode b_Mod_clean 150 = .ok (.iconst 1, 1) := by decide +kernel
theorem d_Mod_clean_151 : decode b_Mod_clean 151 = .ok (.isub, 1) := by decide +kernel
theorem d_Mod_clean_152 : decode b_Mod_clean 152 = .ok (.iaload, 1) := by decide +kernel
theorem d_Mod_clean_153 : decode b_Mod_clean 153 = .ok (.bipush 124, 2) := by decide +kernel
theorem d_Mod_clean_155 : decode b_Mod_clean 155 = .ok (.if_icmp .ne 7, 3) := by decide +kernel
theorem d_Mod_clean_158 : decode b_Mod_clean 158 = .ok (.iconst 1, 1) := by decide +kernel
theorem d_Mod_clean_159 : decode b_Mod_clean 159 = .ok (.goto 4, 3) := by decide +kernel
theorem d_Mod_clean_162 : decode b_Mod_clean 162 = .ok (.iconst 0, 1) := by decide +kernel
theorem d_Mod_clean_163 : decode b_Mod_clean 163 = .ok (.istore_n 2, 1) := by decide +kernel
theorem d_Mod_clean_164 : decode b_Mod_clean 164 = .ok (.aload_n 0, 1) := by decide +kernel
theorem d_Mod_clean_165 : decode b_Mod_clean 165 = .ok (.getfield 46, 3) := by decide +kernel
theorem d_Mod_clean_168 : decode b_Mod_clean 168 = .ok (.iload_n 1, 1) := by decide +kernel
theorem d_Mod_clean_169 : decode b_Mod_clean 169 = .ok (.iaload, 1) := by decide +kernel
theorem d_Mod_clean_170 : decode b_Mod_clean 170 = .ok (.bipush 124, 2) := by decide +kernel
theorem d_Mod_clean_172 : decode b_Mod_clean 172 = .ok (.if_icmp .ne 15, 3) := by decide +kernel
theorem d_Mod_clean_175 : decode b_Mod_clean 175 = .ok (.iload_n 2, 1) := by decide +kernel
theorem d_Mod_clean_176 : decode b_Mod_clean 176 = .ok (.ifCond .eq 11, 3) := by decide +kernel
theorem d_Mod_clean_179 : decode b_Mod_clean 179 = .ok (.aload_n 0, 1) := by decide +kernel
theorem d_Mod_clean_180 : decode b_Mod_clean 180 = .ok (.iload_n 1, 1) := by decide +kernel
theorem d_Mod_clean_181 : decode b_Mod_clean 181 = .ok (.invokevirtual 149, 3) := by decide +kernel
theorem d_Mod_clean_184 : decode b_Mod_clean 184 = .ok (.goto 6, 3) := by decide +kernel
theorem d_Mod_clean_187 : decode b_Mod_clean 187 = .ok (.iinc 1 1, 3) := by decide +kernel
theorem d_Mod_clean_190 : decode b_Mod_clean 190 = .ok (.goto (-57), 3) := by decide +kernel
theorem d_Mod_clean_193 : decode b_Mod_clean 193 = .ok (.aload_n 0, 1) := by decide +kernel
theorem d_Mod_clean_194 : decode b_Mod_clean 194 = .ok (.getfield 142, 3) := by decide +kernel
theorem d_Mod_clean_197 : decode b_Mod_clean 197 = .ok (.ifCond .le 32, 3) := by decide +kernel
theorem d_Mod_clean_200 : decode b_Mod_clean 200 = .ok (.aload_n 0, 1) := by decide +kernel
theorem d_Mod_clean_201 : decode b_Mod_clean 201 = .ok (.getfield 46, 3) := by decide +kernel
theorem d_Mod_clean_204 : decode b_Mod_clean 204 = .ok (.aload_n 0, 1) := by decide +kernel
theorem d_Mod_clean_205 : decode b_Mod_clean 205 = .ok (.getfield 142, 3) := by decide +kernel
theorem d_Mod_clean_208 : decode b_Mod_clean 208 = .ok (.iconst 1, 1) := by decide +kernel
theorem d_Mod_clean_209 : decode b_Mod_clean 209 = .ok (.isub, 1) := by decide +kernel
theorem d_Mod_clean_210 : decode b_Mod_clean 210 = .ok (.iaload, 1) := by decide +kernel
theorem d_Mod_clean_211 : decode b_Mod_clean 211 = .ok (.bipush 124, 2) := by decide +kernel
theorem d_Mod_clean_213 : decode b_Mod_clean 213 = .ok (.if_icmp .ne 16, 3) := by decide +kernel
theorem d_Mod_clean_216 : decode b_Mod_clean 216 = .ok (.aload_n 0, 1) := by decide +kernel
theorem d_Mod_clean_217 : decode b_Mod_clean 217 = .ok (.dup, 1) := by decide +kernel
theorem d_Mod_clean_218 : decode b_Mod_clean 218 = .ok (.getfield 142, 3) := by decide +kernel
theorem d_Mod_clean_221 : decode b_Mod_clean 221 = .ok (.iconst 1, 1) := by decide +kernel
theorem d_Mod_clean_222 : decode b_Mod_clean 222 = .ok (.isub, 1) := by decide +kernel
theorem d_Mod_clean_223 : decode b_Mod_clean 223 = .ok (.putfield 142, 3) := by decide +kernel
theorem d_Mod_clean_226 : decode b_Mod_clean 226 = .ok (.goto (-33), 3) := by decide +kernel
theorem d_Mod_clean_229 : decode b_Mod_clean 229 = .ok (.return_, 1) := by decide +kernel
theorem d_Mod_drop_0 : decode b_Mod_drop 0 = .ok (.aload_n 0, 1) := by decide +kernel
theorem d_Mod_drop_1 : decode b_Mod_drop 1 = .ok (.dup, 1) := by decide +kernel
theorem d_Mod_drop_2 : decode b_Mod_drop 2 = .ok (.getfield 142, 3) := by decide +kernel
theorem d_Mod_drop_5 : decode b_Mod_drop 5 = .ok (.iconst 1, 1) := by decide +kernel
theorem d_Mod_drop_6 : decode b_Mod_drop 6 = .ok (.isub, 1) := by decide +kernel
theorem d_Mod_drop_7 : decode b_Mod_drop 7 = .ok (.putfield 142, 3) := by decide +kernel
theorem d_Mod_drop_10 : decode b_Mod_drop 10 = .ok (.iload_n 1, 1) := by decide +kernel
theorem d_Mod_drop_11 : decode b_Mod_drop 11 = .ok (.istore_n 2, 1) := by decide +kernel
theorem d_Mod_drop_12 : decode b_Mod_drop 12 = .ok (.iload_n 2, 1) := by decide +kernel
theorem d_Mod_drop_13 : decode b_Mod_drop 13 = .ok (.aload_n 0, 1) := by decide +kernel
theorem d_Mod_drop_14 : decode b_Mod_drop 14 = .ok (.getfield 142, 3) := by decide +kernel
theorem d_Mod_drop_17 : decode b_Mod_drop 17 = .ok (.if_icmp .ge 37, 3) := by decide +kernel
theorem d_Mod_drop_20 : decode b_Mod_drop 20 = .ok (.aload_n 0, 1) := by decide +kernel
theorem d_Mod_drop_21 : decode b_Mod_drop 21 = .ok (.getfield 46, 3) := by decide +kernel
theorem d_Mod_drop_24 : decode b_Mod_drop 24 = .ok (.iload_n 2, 1) := by decide +kernel
theorem d_Mod_drop_25 : decode b_Mod_drop 25 = .ok (.aload_n 0, 1) := by decide +kernel
theorem d_Mod_drop_26 : decode b_Mod_drop 26 = .ok (.getfield 46, 3) := by decide +kernel
theorem d_Mod_drop_29 : decode b_Mod_drop 29 = .ok (.iload_n 2, 1) := by decide +kernel
theorem d_Mod_drop_30 : decode b_Mod_drop 30 = .ok (.iconst 1, 1) := by decide +kernel
theorem d_Mod_drop_31 : decode b_Mod_drop 31 = .ok (.iadd, 1) := by decide +kernel
theorem d_Mod_drop_32 : decode b_Mod_drop 32 = .ok (.iaload, 1) := by decide +kernel
theorem d_Mod_drop_33 : decode b_Mod_drop 33 = .ok (.iastore, 1) := by decide +kernel
theorem d_Mod_drop_34 : decode b_Mod_drop 34 = .ok (.aload_n 0, 1) := by decide +kernel
theorem d_Mod_drop_35 : decode b_Mod_drop 35 = .ok (.getfield 49, 3) := by decide +kernel
theorem d_Mod_drop_38 : decode b_Mod_drop 38 = .ok (.iload_n 2, 1) := by decide +kernel
theorem d_Mod_drop_39 : decode b_Mod_drop 39 = .ok (.aload_n 0, 1) := by decide +kernel
theorem d_Mod_drop_40 : decode b_Mod_drop 40 = .ok (.getfield 49, 3) := by decide +kernel
theorem d_Mod_drop_43 : decode b_Mod_drop 43 = .ok (.iload_n 2, 1) := by decide +kernel
theorem d_Mod_drop_44 : decode b_Mod_drop 44 = .ok (.iconst 1, 1) := by decide +kernel
theorem d_Mod_drop_45 : decode b_Mod_drop 45 = .ok (.iadd, 1) := by decide +kernel
theorem d_Mod_drop_46 : decode b_Mod_drop 46 = .ok (.iaload, 1) := by decide +kernel
theorem d_Mod_drop_47 : decode b_Mod_drop 47 = .ok (.iastore, 1) := by decide +kernel
theorem d_Mod_drop_48 : decode b_Mod_drop 48 = .ok (.iinc 2 1, 3) := by decide +kernel
theorem d_Mod_drop_51 : decode b_Mod_drop 51 = .ok (.goto (-39), 3) := by decide +kernel
theorem d_Mod_drop_54 : decode b_Mod_drop 54 = .ok (.return_, 1) := by decide +kernel
theorem d_Mod_hyphenate_0 : decode b_Mod_hyphenate 0 = .ok (.aload_n 0, 1) := by decide +kernel
theorem d_Mod_hyphenate_1 : decode b_Mod_hyphenate 1 = .ok (.iconst 0, 1) := by decide +kernel
theorem d_Mod_hyphenate_2 : decode b_Mod_hyphenate 2 = .ok (.putfield 157, 3) := by decide +kernel
theorem d_Mod_hyphenate_5 : decode b_Mod_hyphenate 5 = .ok (.iconst 0, 1) := by decide +kernel
theorem d_Mod_hyphenate_6 : decode b_Mod_hyphenate 6 = .ok (.istore_n 1, 1) := by decide +kernel
theorem d_Mod_hyphenate_7 : decode b_Mod_hyphenate 7 = .ok (.iload_n 1, 1) := by decide +kernel
theorem d_Mod_hyphenate_8 : decode b_Mod_hyphenate 8 = .ok (.aload_n 0, 1) := by decide +kernel
theorem d_Mod_hyphenate_9 : decode b_Mod_hyphenate 9 = .ok (.getfield 142, 3) := by decide +kernel
theorem d_Mod_hyphenate_12 : decode b_Mod_hyphenate 12 = .ok (.if_icmp .gt 16, 3) := by decide +kernel
theorem d_Mod_hyphenate_15 : decode b_Mod_hyphenate 15 = .ok (.aload_n 0, 1) := by decide +kernel
theorem d_Mod_hyphenate_16 : decode b_Mod_hyphenate 16 = .ok (.getfield 61, 3) := by decide +kernel
theorem d_Mod_hyphenate_19 : decode b_Mod_hyphenate 19 = .ok (.iload_n 1, 1) := by decide +kernel
theorem d_Mod_hyphenate_20 : decode b_Mod_hyphenate 20 = .ok (.iconst 0, 1) := by decide +kernel
theorem d_Mod_hyphenate_21 : decode b_Mod_hyphenate 21 = .ok (.bastore, 1) := by decide +kernel
theorem d_Mod_hyphenate_22 : decode b_Mod_hyphenate 22 = .ok (.iinc 1 1, 3) := by decide +kernel
theorem d_Mod_hyphenate_25 : decode b_Mod_hyphenate 25 = .ok (.goto (-18), 3) := by decide +kernel
theorem d_Mod_hyphenate_28 : decode b_Mod_hyphenate 28 = .ok (.iconst 0, 1) := by decide +kernel
theorem d_Mod_hyphenate_29 : decode b_Mod_hyphenate 29 = .ok (.istore_n 1, 1) := by decide +kernel
theorem d_Mod_hyphenate_30 : decode b_Mod_hyphenate 30 = .ok (.iload_n 1, 1) := by decide +kernel
theorem d_Mod_hyphenate_31 : decode b_Mod_hyphenate 31 = .ok (.aload_n 0, 1) := by decide +kernel
theorem d_Mod_hyphenate_32 : decode b_Mod_hyphenate 32 = .ok (.getfield 142, 3) := by decide +kernel
theorem d_Mod_hyphenate_35 : decode b_Mod_hyphenate 35 = .ok (.if_icmp .ge 93, 3) := by decide +kernel
theorem d_Mod_hyphenate_38 : decode b_Mod_hyphenate 38 = .ok (.iconst 0, 1) := by decide +kernel
theorem d_Mod_hyphenate_39 : decode b_Mod_hyphenate 39 = .ok (.istore_n 2, 1) := by decide +kernel
theorem d_Mod_hyphenate_40 : decode b_Mod_hyphenate 40 = .ok (.iload_n 1, 1) := by decide +kernel
theorem d_Mod_hyphenate_41 : decode b_Mod_hyphenate 41 = .ok (.iload_n 2, 1) := by decide +kernel
theorem d_Mod_hyphenate_42 : decode b_Mod_hyphenate 42 = .ok (.iadd, 1) := by decide +kernel
theorem d_Mod_hyphenate_43 : decode b_Mod_hyphenate 43 = .ok (.aload_n 0, 1) := by decide +kernel
theorem d_Mod_hyphenate_44 : decode b_Mod_hyphenate 44 = .ok (.getfield 142, 3) := by decide +kernel
theorem d_Mod_hyphenate_47 : decode b_Mod_hyphenate 47 = .ok (.if_icmp .ge 23, 3) := by decide +kernel
theorem d_Mod_hyphenate_50 : decode b_Mod_hyphenate 50 = .ok (.aload_n 0, 1) := by decide +kernel
theorem d_Mod_hyphenate_51 : decode b_Mod_hyphenate 51 = .ok (.getfield 46, 3) := by decide +kernel
theorem d_Mod_hyphenate_54 : decode b_Mod_hyphenate 54 = .ok (.iload_n 1, 1) := by decide +kernel
theorem d_Mod_hyphenate_55 : decode b_Mod_hyphenate 55 = .ok (.iload_n 2, 1) := by decide +kernel
theorem d_Mod_hyphenate_56 : decode b_Mod_hyphenate 56 = .ok (.iadd, 1) := by decide +kernel
theorem d_Mod_hyphenate_57 : decode b_Mod_hyphenate 57 = .ok (.iaload, 1) := by decide +kernel
theorem d_Mod_hyphenate_58 : decode b_Mod_hyphenate 58 = .ok (.invokestatic 111, 3) := by decide +kernel
theorem d_Mod_hyphenate_61 : decode b_Mod_hyphenate 61 = .ok (.ifCond .eq 9, 3) := by decide +kernel
theorem d_Mod_hyphenate_64 : decode b_Mod_hyphenate 64 = .ok (.iinc 2 1, 3) := by decide +kernel
theorem d_Mod_hyphenate_67 : decode b_Mod_hyphenate 67 = .ok (.goto (-27), 3) := by decide +kernel
theorem d_Mod_hyphenate_70 : decode b_Mod_hyphenate 70 = .ok (.iconst 2, 1) := by decide +kernel
theorem d_Mod_hyphenate_71 : decode b_Mod_hyphenate 71 = .ok (.istore_n 3, 1) := by decide +kernel
theorem d_Mod_hyphenate_72 : decode b_Mod_hyphenate 72 = .ok (.iload_n 3, 1) := by decide +kernel
theorem d_Mod_hyphenate_73 : decode b_Mod_hyphenate 73 = .ok (.iload_n 2, 1) := by decide +kernel
theorem d_Mod_hyphenate_74 : decode b_Mod_hyphenate 74 = .ok (.iconst 2, 1) := by decide +kernel
theorem d_Mod_hyphenate_75 : decode b_Mod_hyphenate 75 = .ok (.isub, 1) := by decide +kernel
theorem d_Mod_hyphenate_76 : decode b_Mod_hyphenate 76 = .ok (.if_icmp .gt 43, 3) := by decide +kernel
theorem d_Mod_hyphenate_79 : decode b_Mod_hyphenate 79 = .ok (.aload_n 0, 1) := by decide +kernel
theorem d_Mod_hyphenate_80 : decode b_Mod_hyphenate 80 = .ok (.iload_n 1, 1) := by decide +kernel
theorem d_Mod_hyphenate_81 : decode b_Mod_hyphenate 81 = .ok (.iload_n 2, 1) := by decide +kernel
theorem d_Mod_hyphenate_82 : decode b_Mod_hyphenate 82 = .ok (.iload_n 3, 1) := by decide +kernel
theorem d_Mod_hyphenate_83 : decode b_Mod_hyphenate 83 = .ok (.invokevirtual 160, 3) := by decide +kernel
theorem d_Mod_hyphenate_86 : decode b_Mod_hyphenate 86 = .ok (.iconst 2, 1) := by decide +kernel
theorem d_Mod_hyphenate_87 : decode b_Mod_hyphenate 87 = .ok (.irem, 1) := by decide +kernel
theorem d_Mod_hyphenate_88 : decode b_Mod_hyphenate 88 = .ok (.ifCond .ne 6, 3) := by decide +kernel
theorem d_Mod_hyphenate_91 : decode b_Mod_hyphenate 91 = .ok (.goto 22, 3) := by decide +kernel
theorem d_Mod_hyphenate_94 : decode b_Mod_hyphenate 94 = .ok (.aload_n 0, 1) := by decide +kernel
theorem d_Mod_hyphenate_95 : decode b_Mod_hyphenate 95 = .ok (.getfield 61, 3) := by decide +kernel
theorem d_Mod_hyphenate_98 : decode b_Mod_hyphenate 98 = .ok (.iload_n 1, 1) := by decide +kernel
theorem d_Mod_hyphenate_99 : decode b_Mod_hyphenate 99 = .ok (.iload_n 3, 1) := by decide +kernel
theorem d_Mod_hyphenate_100 : decode b_Mod_hyphenate 100 = .ok (.iadd, 1) := by decide +kernel
theorem d_Mod_hyphenate_101 : decode b_Mod_hyphenate 101 = .ok (.iconst 1, 1) := by decide +kernel
theorem d_Mod_hyphenate_102 : decode b_Mod_hyphenate 102 = .ok (.bastore, 1) := by decide +kernel
theorem d_Mod_hyphenate_103 : decode b_Mod_hyphenate 103 = .ok (.aload_n 0, 1) := by decide +kernel
theorem d_Mod_hyphenate_104 : decode b_Mod_hyphenate 104 = .ok (.dup, 1) := by decide +kernel
theorem d_Mod_hyphenate_105 : decode b_Mod_hyphenate 105 = .ok (.getfield 157, 3) := by decide +kernel
theorem d_Mod_hyphenate_108 : decode b_Mod_hyphenate 108 = .ok (.iconst 1, 1) := by decide +kernel
theorem d_Mod_hyphenate_109 : decode b_Mod_hyphenate 109 = .ok (.iadd, 1) := by decide +kernel
theorem d_Mod_hyphenate_110 : decode b_Mod_hyphenate 110 = .ok (.putfield 157, 3) := by decide +kernel
theorem d_Mod_hyphenate_113 : decode b_Mod_hyphenate 113 = .ok (.iinc 3 1, 3) := by decide +kernel
theorem d_Mod_hyphenate_116 : decode b_Mod_hyphenate 116 = .ok (.goto (-44), 3) := by decide +kernel
theorem d_Mod_hyphenate_119 : decode b_Mod_hyphenate 119 = .ok (.iload_n 1, 1) := by decide +kernel
theorem d_Mod_hyphenate_120 : decode b_Mod_hyphenate 120 = .ok (.iload_n 2, 1) := by decide +kernel
theorem d_Mod_hyphenate_121 : decode b_Mod_hyphenate 121 = .ok (.iconst 1, 1) := by decide +kernel
theorem d_Mod_hyphenate_122 : decode b_Mod_hyphenate 122 = .ok (.iadd, 1) := by decide +kernel
theorem d_Mod_hyphenate_123 : decode b_Mod_hyphenate 123 = .ok (.iadd, 1) := by decide +kernel
theorem d_Mod_hyphenate_124 : decode b_Mod_hyphenate 124 = .ok (.istore_n 1, 1) := by decide +kernel
theorem d_Mod_hyphenate_125 : decode b_Mod_hyphenate 125 = .ok (.goto (-95), 3) := by decide +kernel
theorem d_Mod_hyphenate_128 : decode b_Mod_hyphenate 128 = .ok (.return_, 1) := by decide +kernel
