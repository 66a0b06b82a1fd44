theorem dX12_init_0 : decode cX12_init 0 = .ok (.aload_n 0, 1) := by decide +kernel
theorem dX12_init_1 : decode cX12_init 1 = .ok (.invokespecial 1, 3) := by decide +kernel
theorem dX12_init_4 : decode cX12_init 4 = .ok (.aload_n 0, 1) := by decide +kernel
theorem dX12_init_5 : decode cX12_init 5 = .ok (.sipush 300, 3) := by decide +kernel
theorem dX12_init_8 : decode cX12_init 8 = .ok (.newarray .int, 2) := by decide +kernel
theorem dX12_init_10 : decode cX12_init 10 = .ok (.putfield 9, 3) := by decide +kernel
theorem dX12_init_13 : decode cX12_init 13 = .ok (.aload_n 0, 1) := by decide +kernel
theorem dX12_init_14 : decode cX12_init 14 = .ok (.sipush 3000, 3) := by decide +kernel
theorem dX12_init_17 : decode cX12_init 17 = .ok (.newarray .byte, 2) := by decide +kernel
theorem dX12_init_19 : decode cX12_init 19 = .ok (.putfield 13, 3) := by decide +kernel
theorem dX12_init_22 : decode cX12_init 22 = .ok (.aload_n 0, 1) := by decide +kernel
theorem dX12_init_23 : decode cX12_init 23 = .ok (.sipush 300, 3) := by decide +kernel
theorem dX12_init_26 : decode cX12_init 26 = .ok (.newarray .int, 2) := by decide +kernel
theorem dX12_init_28 : decode cX12_init 28 = .ok (.putfield 17, 3) := by decide +kernel
theorem dX12_init_31 : decode cX12_init 31 = .ok (.aload_n 0, 1) := by decide +kernel
theorem dX12_init_32 : decode cX12_init 32 = .ok (.sipush 300, 3) := by decide +kernel
theorem dX12_init_35 : decode cX12_init 35 = .ok (.newarray .int, 2) := by decide +kernel
theorem dX12_init_37 : decode cX12_init 37 = .ok (.putfield 20, 3) := by decide +kernel
theorem dX12_init_40 : decode cX12_init 40 = .ok (.aload_n 0, 1) := by decide +kernel
theorem dX12_init_41 : decode cX12_init 41 = .ok (.iconst 1, 1) := by decide +kernel
theorem dX12_init_42 : decode cX12_init 42 = .ok (.putfield 23, 3) := by decide +kernel
theorem dX12_init_45 : decode cX12_init 45 = .ok (.aload_n 0, 1) := by decide +kernel
theorem dX12_init_46 : decode cX12_init 46 = .ok (.bipush 8, 2) := by decide +kernel
theorem dX12_init_48 : decode cX12_init 48 = .ok (.newarray .int, 2) := by decide +kernel
theorem dX12_init_50 : decode cX12_init 50 = .ok (.putfield 27, 3) := by decide +kernel
theorem dX12_init_53 : decode cX12_init 53 = .ok (.aload_n 0, 1) := by decide +kernel
theorem dX12_init_54 : decode cX12_init 54 = .ok (.bipush 8, 2) := by decide +kernel
theorem dX12_init_56 : decode cX12_init 56 = .ok (.newarray .int, 2) := by decide +kernel
theorem dX12_init_58 : decode cX12_init 58 = .ok (.putfield 30, 3) := by decide +kernel
theorem dX12_init_61 : decode cX12_init 61 = .ok (.aload_n 0, 1) := by decide +kernel
theorem dX12_init_62 : decode cX12_init 62 = .ok (.sipush 1040, 3) := by decide +kernel
theorem dX12_init_65 : decode cX12_init 65 = .ok (.newarray .byte, 2) := by decide +kernel
theorem dX12_init_67 : decode cX12_init 67 = .ok (.putfield 33, 3) := by decide +kernel
theorem dX12_init_70 : decode cX12_init 70 = .ok (.aload_n 0, 1) := by decide +kernel
theorem dX12_init_71 : decode cX12_init 71 = .ok (.iconst 5, 1) := by decide +kernel
theorem dX12_init_72 : decode cX12_init 72 = .ok (.newarray .int, 2) := by decide +kernel
theorem dX12_init_74 : decode cX12_init 74 = .ok (.putfield 36, 3) := by decide +kernel
theorem dX12_init_77 : decode cX12_init 77 = .ok (.aload_n 0, 1) := by decide +kernel
theorem dX12_init_78 : decode cX12_init 78 = .ok (.bipush 12, 2) := by decide +kernel
theorem dX12_init_80 : decode cX12_init 80 = .ok (.newarray .int, 2) := by decide +kernel
theorem dX12_init_82 : decode cX12_init 82 = .ok (.putfield 39, 3) := by decide +kernel
theorem dX12_init_85 : decode cX12_init 85 = .ok (.aload_n 0, 1) := by decide +kernel
theorem dX12_init_86 : decode cX12_init 86 = .ok (.bipush 12, 2) := by decide +kernel
theorem dX12_init_88 : decode cX12_init 88 = .ok (.newarray .int, 2) := by decide +kernel
theorem dX12_init_90 : decode cX12_init 90 = .ok (.putfield 42, 3) := by decide +kernel
theorem dX12_init_93 : decode cX12_init 93 = .ok (.aload_n 0, 1) := by decide +kernel
theorem dX12_init_94 : decode cX12_init 94 = .ok (.sipush 150, 3) := by decide +kernel
theorem dX12_init_97 : decode cX12_init 97 = .ok (.newarray .int, 2) := by decide +kernel
theorem dX12_init_99 : decode cX12_init 99 = .ok (.putfield 45, 3) := by decide +kernel
theorem dX12_init_102 : decode cX12_init 102 = .ok (.aload_n 0, 1) := by decide +kernel
theorem dX12_init_103 : decode cX12_init 103 = .ok (.sipush 150, 3) := by decide +kernel
theorem dX12_init_106 : decode cX12_init 106 = .ok (.newarray .int, 2) := by decide +kernel
theorem dX12_init_108 : decode cX12_init 108 = .ok (.putfield 48, 3) := by decide +kernel
theorem dX12_init_111 : decode cX12_init 111 = .ok (.aload_n 0, 1) := by decide +kernel
theorem dX12_init_112 : decode cX12_init 112 = .ok (.sipush 150, 3) := by decide +kernel
theorem dX12_init_115 : decode cX12_init 115 = .ok (.newarray .int, 2) := by decide +kernel
theorem dX12_init_117 : decode cX12_init 117 = .ok (.putfield 51, 3) := by decide +kernel
theorem dX12_init_120 : decode cX12_init 120 = .ok (.aload_n 0, 1) := by decide +kernel
theorem dX12_init_121 : decode cX12_init 121 = .ok (.sipush 150, 3) := by decide +kernel
theorem dX12_init_124 : decode cX12_init 124 = .ok (.newarray .int, 2) := by decide +kernel
theorem dX12_init_126 : decode cX12_init 126 = .ok (.putfield 54, 3) := by decide +kernel
theorem dX12_init_129 : decode cX12_init 129 = .ok (.aload_n 0, 1) := by decide +kernel
theorem dX12_init_130 : decode cX12_init 130 = .ok (.sipush 150, 3) := by decide +kernel
theorem dX12_init_133 : decode cX12_init 133 = .ok (.newarray .int, 2) := by decide +kernel
theorem dX12_init_135 : decode cX12_init 135 = .ok (.putfield 57, 3) := by decide +kernel
theorem dX12_init_138 : decode cX12_init 138 = .ok (.aload_n 0, 1) := by decide +kernel
theorem dX12_init_139 : decode cX12_init 139 = .ok (.bipush 12, 2) := by decide +kernel
theorem dX12_init_141 : decode cX12_init 141 = .ok (.newarray .int, 2) := by decide +kernel
theorem dX12_init_143 : decode cX12_init 143 = .ok (.putfield 60, 3) := by decide +kernel
theorem dX12_init_146 : decode cX12_init 146 = .ok (.aload_n 0, 1) := by decide +kernel
theorem dX12_init_147 : decode cX12_init 147 = .ok (.sipush 144, 3) := by decide +kernel
theorem dX12_init_150 : decode cX12_init 150 = .ok (.newarray .boolean, 2) := by decide +kernel
theorem dX12_init_152 : decode cX12_init 152 = .ok (.putfield 63, 3) := by decide +kernel
theorem dX12_init_155 : decode cX12_init 155 = .ok (.aload_n 0, 1) := by decide +kernel
theorem dX12_init_156 : decode cX12_init 156 = .ok (.iconst 4, 1) := by decide +kernel
theorem dX12_init_157 : decode cX12_init 157 = .ok (.newarray .int, 2) := by decide +kernel
theorem dX12_init_159 : decode cX12_init 159 = .ok (.putfield 67, 3) := by decide +kernel
theorem dX12_init_162 : decode cX12_init 162 = .ok (.aload_n 0, 1) := by decide +kernel
theorem dX12_init_163 : decode cX12_init 163 = .ok (.sipush 1000, 3) := by decide +kernel
theorem dX12_init_166 : decode cX12_init 166 = .ok (.newarray .byte, 2) := by decide +kernel
theorem dX12_init_168 : decode cX12_init 168 = .ok (.putfield 70, 3) := by decide +kernel
theorem dX12_init_171 : decode cX12_init 171 = .ok (.aload_n 0, 1) := by decide +kernel
theorem dX12_init_172 : decode cX12_init 172 = .ok (.sipush 300, 3) := by decide +kernel
theorem dX12_init_175 : decode cX12_init 175 = .ok (.newarray .int, 2) := by decide +kernel
theorem dX12_init_177 : decode cX12_init 177 = .ok (.putfield 73, 3) := by decide +kernel
theorem dX12_init_180 : decode cX12_init 180 = .ok (.aload_n 0, 1) := by decide +kernel
theorem dX12_init_181 : decode cX12_init 181 = .ok (.sipush 150, 3) := by decide +kernel
theorem dX12_init_184 : decode cX12_init 184 = .ok (.newarray .boolean, 2) := by decide +kernel
theorem dX12_init_186 : decode cX12_init 186 = .ok (.putfield 76, 3) := by decide +kernel
theorem dX12_init_189 : decode cX12_init 189 = .ok (.aload_n 0, 1) := by decide +kernel
theorem dX12_init_190 : decode cX12_init 190 = .ok (.bipush 100, 2) := by decide +kernel
theorem dX12_init_192 : decode cX12_init 192 = .ok (.newarray .int, 2) := by decide +kernel
theorem dX12_init_194 : decode cX12_init 194 = .ok (.putfield 79, 3) := by decide +kernel
theorem dX12_init_197 : decode cX12_init 197 = .ok (.aload_n 0, 1) := by decide +kernel
theorem dX12_init_198 : decode cX12_init 198 = .ok (.bipush 100, 2) := by decide +kernel
theorem dX12_init_200 : decode cX12_init 200 = .ok (.newarray .int, 2) := by decide +kernel
theorem dX12_init_202 : decode cX12_init 202 = .ok (.putfield 82, 3) := by decide +kernel
theorem dX12_init_205 : decode cX12_init 205 = .ok (.aload_n 0, 1) := by decide +kernel
theorem dX12_init_206 : decode cX12_init 206 = .ok (.bipush 100, 2) := by decide +kernel
theorem dX12_init_208 : decode cX12_init 208 = .ok (.newarray .int, 2) := by decide +kernel
theorem dX12_init_210 : decode cX12_init 210 = .ok (.putfield 85, 3) := by decide +kernel
theorem dX12_init_213 : decode cX12_init 213 = .ok (.aload_n 0, 1) := by decide +kernel
theorem dX12_init_214 : decode cX12_init 214 = .ok (.bipush 100, 2) := by decide +kernel
theorem dX12_init_216 : decode cX12_init 216 = .ok (.newarray .int, 2) := by decide +kernel
theorem dX12_init_218 : decode cX12_init 218 = .ok (.putfield 88, 3) := by decide +kernel
theorem dX12_init_221 : decode cX12_init 221 = .ok (.aload_n 0, 1) := by decide +kernel
theorem dX12_init_222 : decode cX12_init 222 = .ok (.bipush 100, 2) := by decide +kernel
theorem dX12_init_224 : decode cX12_init 224 = .ok (.newarray .int, 2) := by decide +kernel
theorem dX12_init_226 : decode cX12_init 226 = .ok (.putfield 91, 3) := by decide +kernel
theorem dX12_init_229 : decode cX12_init 229 = .ok (.aload_n 0, 1) := by decide +kernel
theorem dX12_init_230 : decode cX12_init 230 = .ok (.sipush 500, 3) := by decide +kernel
theorem dX12_init_233 : decode cX12_init 233 = .ok (.newarray .int, 2) := by decide +kernel
theorem dX12_init_235 : decode cX12_init 235 = .ok (.putfield 94, 3) := by decide +kernel
theorem dX12_init_238 : decode cX12_init 238 = .ok (.aload_n 0, 1) := by decide +kernel
theorem dX12_init_239 : decode cX12_init 239 = .ok (.bipush 100, 2) := by decide +kernel
theorem dX12_init_241 : decode cX12_init 241 = .ok (.newarray .int, 2) := by decide +kernel
theorem dX12_init_243 : decode cX12_init 243 = .ok (.putfield 97, 3) := by decide +kernel
theorem dX12_init_246 : decode cX12_init 246 = .ok (.aload_n 0, 1) := by decide +kernel
theorem dX12_init_247 : decode cX12_init 247 = .ok (.bipush 100, 2) := by decide +kernel
theorem dX12_init_249 : decode cX12_init 249 = .ok (.newarray .int, 2) := by decide +kernel
theorem dX12_init_251 : decode cX12_init 251 = .ok (.putfield 100, 3) := by decide +kernel
theorem dX12_init_254 : decode cX12_init 254 = .ok (.aload_n 0, 1) := by decide +kernel
theorem dX12_init_255 : decode cX12_init 255 = .ok (.bipush 100, 2) := by decide +kernel
theorem dX12_init_257 : decode cX12_init 257 = .ok (.newarray .int, 2) := by decide +kernel
theorem dX12_init_259 : decode cX12_init 259 = .ok (.putfield 103, 3) := by decide +kernel
theorem dX12_init_262 : decode cX12_init 262 = .ok (.aload_n 0, 1) := by decide +kernel
theorem dX12_init_263 : decode cX12_init 263 = .ok (.sipush 1000, 3) := by decide +kernel
theorem dX12_init_266 : decode cX12_init 266 = .ok (.newarray .int, 2) := by decide +kernel
theorem dX12_init_268 : decode cX12_init 268 = .ok (.putfield 106, 3) := by decide +kernel
theorem dX12_init_271 : decode cX12_init 271 = .ok (.aload_n 0, 1) := by decide +kernel
theorem dX12_init_272 : decode cX12_init 272 = .ok (.bipush 100, 2) := by decide +kernel
theorem dX12_init_274 : decode cX12_init 274 = .ok (.newarray .long, 2) := by decide +kernel
theorem dX12_init_276 : decode cX12_init 276 = .ok (.putfield 109, 3) := by decide +kernel
theorem dX12_init_279 : decode cX12_init 279 = .ok (.aload_n 0, 1) := by decide +kernel
theorem dX12_init_280 : decode cX12_init 280 = .ok (.bipush 10, 2) := by decide +kernel
theorem dX12_init_282 : decode cX12_init 282 = .ok (.newarray .int, 2) := by decide +kernel
theorem dX12_init_284 : decode cX12_init 284 = .ok (.putfield 113, 3) := by decide +kernel
theorem dX12_init_287 : decode cX12_init 287 = .ok (.aload_n 0, 1) := by decide +kernel
theorem dX12_init_288 : decode cX12_init 288 = .ok (.iconst 4, 1) := by decide +kernel
theorem dX12_init_289 : decode cX12_init 289 = .ok (.newarray .int, 2) := by decide +kernel
theorem dX12_init_291 : decode cX12_init 291 = .ok (.putfield 116, 3) := by decide +kernel
theorem dX12_init_294 : decode cX12_init 294 = .ok (.aload_n 0, 1) := by decide +kernel
theorem dX12_init_295 : decode cX12_init 295 = .ok (.iconst 4, 1) := by decide +kernel
theorem dX12_init_296 : decode cX12_init 296 = .ok (.newarray .int, 2) := by decide +kernel
theorem dX12_init_298 : decode cX12_init 298 = .ok (.putfield 119, 3) := by decide +kernel
theorem dX12_init_301 : decode cX12_init 301 = .ok (.aload_n 0, 1) := by decide +kernel
theorem dX12_init_302 : decode cX12_init 302 = .ok (.iconst 4, 1) := by decide +kernel
theorem dX12_init_303 : decode cX12_init 303 = .ok (.newarray .int, 2) := by decide +kernel
theorem dX12_init_305 : decode cX12_init 305 = .ok (.putfield 122, 3) := by decide +kernel
theorem dX12_init_308 : decode cX12_init 308 = .ok (.aload_n 0, 1) := by decide +kernel
theorem dX12_init_309 : decode cX12_init 309 = .ok (.iconst 4, 1) := by decide +kernel
theorem dX12_init_310 : decode cX12_init 310 = .ok (.newarray .int, 2) := by decide +kernel
theorem dX12_init_312 : decode cX12_init 312 = .ok (.putfield 125, 3) := by decide +kernel
theorem dX12_init_315 : decode cX12_init 315 = .ok (.aload_n 0, 1) := by decide +kernel
theorem dX12_init_316 : decode cX12_init 316 = .ok (.sipush 256, 3) := by decide +kernel
theorem dX12_init_319 : decode cX12_init 319 = .ok (.newarray .int, 2) := by decide +kernel
theorem dX12_init_321 : decode cX12_init 321 = .ok (.putfield 128, 3) := by decide +kernel
theorem dX12_init_324 : decode cX12_init 324 = .ok (.aload_n 0, 1) := by decide +kernel
theorem dX12_init_325 : decode cX12_init 325 = .ok (.iconst 4, 1) := by decide +kernel
theorem dX12_init_326 : decode cX12_init 326 = .ok (.newarray .int, 2) := by decide +kernel
theorem dX12_init_328 : decode cX12_init 328 = .ok (.putfield 131, 3) := by decide +kernel
theorem dX12_init_331 : decode cX12_init 331 = .ok (.aload_n 0, 1) := by decide +kernel
theorem dX12_init_332 : decode cX12_init 332 = .ok (.sipush 1200, 3) := by decide +kernel
theorem dX12_init_335 : decode cX12_init 335 = .ok (.newarray .boolean, 2) := by decide +kernel
theorem dX12_init_337 : decode cX12_init 337 = .ok (.putfield 134, 3) := by decide +kernel
theorem dX12_init_340 : decode cX12_init 340 = .ok (.aload_n 0, 1) := by decide +kernel
theorem dX12_init_341 : decode cX12_init 341 = .ok (.iconst 5, 1) := by decide +kernel
theorem dX12_init_342 : decode cX12_init 342 = .ok (.putfield 137, 3) := by decide +kernel
theorem dX12_init_345 : decode cX12_init 345 = .ok (.aload_n 0, 1) := by decide +kernel
theorem dX12_init_346 : decode cX12_init 346 = .ok (.iconst 1, 1) := by decide +kernel
theorem dX12_init_347 : decode cX12_init 347 = .ok (.putfield 140, 3) := by decide +kernel
theorem dX12_init_350 : decode cX12_init 350 = .ok (.aload_n 0, 1) := by decide +kernel
theorem dX12_init_351 : decode cX12_init 351 = .ok (.bipush 10, 2) := by decide +kernel
theorem dX12_init_353 : decode cX12_init 353 = .ok (.newarray .int, 2) := by decide +kernel
theorem dX12_init_355 : decode cX12_init 355 = .ok (.putfield 143, 3) := by decide +kernel
theorem dX12_init_358 : decode cX12_init 358 = .ok (.aload_n 0, 1) := by decide +kernel
theorem dX12_init_359 : decode cX12_init 359 = .ok (.bipush 10, 2) := by decide +kernel
theorem dX12_init_361 : decode cX12_init 361 = .ok (.newarray .int, 2) := by decide +kernel
theorem dX12_init_363 : decode cX12_init 363 = .ok (.putfield 146, 3) := by decide +kernel
theorem dX12_init_366 : decode cX12_init 366 = .ok (.return_, 1) := by decide +kernel
theorem dX12_throwsIf_0 : decode cX12_throwsIf 0 = .ok (.iload_n 1, 1) := by decide +kernel
theorem dX12_throwsIf_1 : decode cX12_throwsIf 1 = .ok (.ifCond .eq 8, 3) := by decide +kernel
theorem dX12_throwsIf_4 : decode cX12_throwsIf 4 = .ok (.aload_n 0, 1) := by decide +kernel
theorem dX12_throwsIf_5 : decode cX12_throwsIf 5 = .ok (.iload_n 2, 1) := by decide +kernel
theorem dX12_throwsIf_6 : decode cX12_throwsIf 6 = .ok (.putfield 149, 3) := by decide +kernel
theorem dX12_throwsIf_9 : decode cX12_throwsIf 9 = .ok (.iload_n 1, 1) := by decide +kernel
theorem dX12_throwsIf_10 : decode cX12_throwsIf 10 = .ok (.ireturn, 1) := by decide +kernel
theorem dX12_noName_0 : decode cX12_noName 0 = .ok (.iload_n 1, 1) := by decide +kernel
theorem dX12_noName_1 : decode cX12_noName 1 = .ok (.ifCond .lt 11, 3) := by decide +kernel
theorem dX12_noName_4 : decode cX12_noName 4 = .ok (.iload_n 1, 1) := by decide +kernel
theorem dX12_noName_5 : decode cX12_noName 5 = .ok (.aload_n 0, 1) := by decide +kernel
theorem dX12_noName_6 : decode cX12_noName 6 = .ok (.getfield 23, 3) := by decide +kernel
theorem dX12_noName_9 : decode cX12_noName 9 = .ok (.if_icmp .lt 7, 3) := by decide +kernel
theorem dX12_noName_12 : decode cX12_noName 12 = .ok (.iconst 1, 1) := by decide +kernel
theorem dX12_noName_13 : decode cX12_noName 13 = .ok (.goto 4, 3) := by decide +kernel
theorem dX12_noName_16 : decode cX12_noName 16 = .ok (.iconst 0, 1) := by decide +kernel
theorem dX12_noName_17 : decode cX12_noName 17 = .ok (.ireturn, 1) := by decide +kernel
theorem dX12_child_0 : decode cX12_child 0 = .ok (.iconst 1, 1) := by decide +kernel
theorem dX12_child_1 : decode cX12_child 1 = .ok (.istore 5, 2) := by decide +kernel
theorem dX12_child_3 : decode cX12_child 3 = .ok (.iload 5, 2) := by decide +kernel
theorem dX12_child_5 : decode cX12_child 5 = .ok (.aload_n 0, 1) := by decide +kernel
theorem dX12_child_6 : decode cX12_child 6 = .ok (.getfield 23, 3) := by decide +kernel
theorem dX12_child_9 : decode cX12_child 9 = .ok (.if_icmp .ge 97, 3) := by decide +kernel
theorem dX12_child_12 : decode cX12_child 12 = .ok (.aload_n 0, 1) := by decide +kernel
theorem dX12_child_13 : decode cX12_child 13 = .ok (.getfield 9, 3) := by decide +kernel
theorem dX12_child_16 : decode cX12_child 16 = .ok (.iload 5, 2) := by decide +kernel
theorem dX12_child_18 : decode cX12_child 18 = .ok (.iaload, 1) := by decide +kernel
theorem dX12_child_19 : decode cX12_child 19 = .ok (.iload_n 1, 1) := by decide +kernel
theorem dX12_child_20 : decode cX12_child 20 = .ok (.if_icmp .ne 19, 3) := by decide +kernel
theorem dX12_child_23 : decode cX12_child 23 = .ok (.aload_n 0, 1) := by decide +kernel
theorem dX12_child_24 : decode cX12_child 24 = .ok (.getfield 17, 3) := by decide +kernel
theorem dX12_child_27 : decode cX12_child 27 = .ok (.iload 5, 2) := by decide +kernel
theorem dX12_child_29 : decode cX12_child 29 = .ok (.iaload, 1) := by decide +kernel
theorem dX12_child_30 : decode cX12_child 30 = .ok (.iload 4, 2) := by decide +kernel
theorem dX12_child_32 : decode cX12_child 32 = .ok (.if_icmp .ne 7, 3) := by decide +kernel
theorem dX12_child_35 : decode cX12_child 35 = .ok (.iconst 1, 1) := by decide +kernel
theorem dX12_child_36 : decode cX12_child 36 = .ok (.goto 4, 3) := by decide +kernel
theorem dX12_child_39 : decode cX12_child 39 = .ok (.iconst 0, 1) := by decide +kernel
theorem dX12_child_40 : decode cX12_child 40 = .ok (.istore 6, 2) := by decide +kernel
theorem dX12_child_42 : decode cX12_child 42 = .ok (.iconst 0, 1) := by decide +kernel
theorem dX12_child_43 : decode cX12_child 43 = .ok (.istore 7, 2) := by decide +kernel
theorem dX12_child_45 : decode cX12_child 45 = .ok (.iload 6, 2) := by decide +kernel
theorem dX12_child_47 : decode cX12_child 47 = .ok (.ifCond .eq 45, 3) := by decide +kernel
theorem dX12_child_50 : decode cX12_child 50 = .ok (.iload 7, 2) := by decide +kernel
theorem dX12_child_52 : decode cX12_child 52 = .ok (.iload 4, 2) := by decide +kernel
theorem dX12_child_54 : decode cX12_child 54 = .ok (.if_icmp .ge 38, 3) := by decide +kernel
theorem dX12_child_57 : decode cX12_child 57 = .ok (.aload_n 0, 1) := by decide +kernel
theorem dX12_child_58 : decode cX12_child 58 = .ok (.getfield 13, 3) := by decide +kernel
theorem dX12_child_61 : decode cX12_child 61 = .ok (.bipush 10, 2) := by decide +kernel
theorem dX12_child_63 : decode cX12_child 63 = .ok (.iload 5, 2) := by decide +kernel
theorem dX12_child_65 : decode cX12_child 65 = .ok (.imul, 1) := by decide +kernel
theorem dX12_child_66 : decode cX12_child 66 = .ok (.iload 7, 2) := by decide +kernel
theorem dX12_child_68 : decode cX12_child 68 = .ok (.iadd, 1) := by decide +kernel
theorem dX12_child_69 : decode cX12_child 69 = .ok (.baload, 1) := by decide +kernel
theorem dX12_child_70 : decode cX12_child 70 = .ok (.aload_n 2, 1) := by decide +kernel
theorem dX12_child_71 : decode cX12_child 71 = .ok (.iload_n 3, 1) := by decide +kernel
theorem dX12_child_72 : decode cX12_child 72 = .ok (.iload 7, 2) := by decide +kernel
theorem dX12_child_74 : decode cX12_child 74 = .ok (.iadd, 1) := by decide +kernel
theorem dX12_child_75 : decode cX12_child 75 = .ok (.baload, 1) := by decide +kernel
theorem dX12_child_76 : decode cX12_child 76 = .ok (.if_icmp .ne 7, 3) := by decide +kernel
theorem dX12_child_79 : decode cX12_child 79 = .ok (.iconst 1, 1) := by decide +kernel
theorem dX12_child_80 : decode cX12_child 80 = .ok (.goto 4, 3) := by decide +kernel
theorem dX12_child_83 : decode cX12_child 83 = .ok (.iconst 0, 1) := by decide +kernel
theorem dX12_child_84 : decode cX12_child 84 = .ok (.istore 6, 2) := by decide +kernel
theorem dX12_child_86 : decode cX12_child 86 = .ok (.iinc 7 1, 3) := by decide +kernel
theorem dX12_child_89 : decode cX12_child 89 = .ok (.goto (-44), 3) := by decide +kernel
theorem dX12_child_92 : decode cX12_child 92 = .ok (.iload 6, 2) := by decide +kernel
theorem dX12_child_94 : decode cX12_child 94 = .ok (.ifCond .eq 6, 3) := by decide +kernel
theorem dX12_child_97 : decode cX12_child 97 = .ok (.iload 5, 2) := by decide +kernel
theorem dX12_child_99 : decode cX12_child 99 = .ok (.ireturn, 1) := by decide +kernel
theorem dX12_child_100 : decode cX12_child 100 = .ok (.iinc 5 1, 3) := by decide +kernel
theorem dX12_child_103 : decode cX12_child 103 = .ok (.goto (-100), 3) := by decide +kernel
theorem dX12_child_106 : decode cX12_child 106 = .ok (.iconst (-1), 1) := by decide +kernel
theorem dX12_child_107 : decode cX12_child 107 = .ok (.ireturn, 1) := by decide +kernel
theorem dX12_makes_0 : decode cX12_makes 0 = .ok (.aload_n 0, 1) := by decide +kernel
theorem dX12_makes_1 : decode cX12_makes 1 = .ok (.getfield 23, 3) := by decide +kernel
theorem dX12_makes_4 : decode cX12_makes 4 = .ok (.istore 5, 2) := by decide +kernel
theorem dX12_makes_6 : decode cX12_makes 6 = .ok (.aload_n 0, 1) := by decide +kernel
theorem dX12_makes_7 : decode cX12_makes 7 = .ok (.dup, 1) := by decide +kernel
theorem dX12_makes_8 : decode cX12_makes 8 = .ok (.getfield 23, 3) := by decide +kernel
theorem dX12_makes_11 : decode cX12_makes 11 = .ok (.iconst 1, 1) := by decide +kernel
theorem dX12_makes_12 : decode cX12_makes 12 = .ok (.iadd, 1) := by decide +kernel
theorem dX12_makes_13 : decode cX12_makes 13 = .ok (.putfield 23, 3) := by decide +kernel
theorem dX12_makes_16 : decode cX12_makes 16 = .ok (.aload_n 0, 1) := by decide +kernel
theorem dX12_makes_17 : decode cX12_makes 17 = .ok (.getfield 9, 3) := by decide +kernel
theorem dX12_makes_20 : decode cX12_makes 20 = .ok (.iload 5, 2) := by decide +kernel
theorem dX12_makes_22 : decode cX12_makes 22 = .ok (.iload_n 1, 1) := by decide +kernel
theorem dX12_makes_23 : decode cX12_makes 23 = .ok (.iastore, 1) := by decide +kernel
theorem dX12_makes_24 : decode cX12_makes 24 = .ok (.aload_n 0, 1) := by decide +kernel
theorem dX12_makes_25 : decode cX12_makes 25 = .ok (.getfield 20, 3) := by decide +kernel
theorem dX12_makes_28 : decode cX12_makes 28 = .ok (.iload 5, 2) := by decide +kernel
theorem dX12_makes_30 : decode cX12_makes 30 = .ok (.aload_n 0, 1) := by decide +kernel
theorem dX12_makes_31 : decode cX12_makes 31 = .ok (.getfield 20, 3) := by decide +kernel
theorem dX12_makes_34 : decode cX12_makes 34 = .ok (.iload_n 1, 1) := by decide +kernel
theorem dX12_makes_35 : decode cX12_makes 35 = .ok (.iaload, 1) := by decide +kernel
theorem dX12_makes_36 : decode cX12_makes 36 = .ok (.iconst 1, 1) := by decide +kernel
theorem dX12_makes_37 : decode cX12_makes 37 = .ok (.iadd, 1) := by decide +kernel
theorem dX12_makes_38 : decode cX12_makes 38 = .ok (.iastore, 1) := by decide +kernel
theorem dX12_makes_39 : decode cX12_makes 39 = .ok (.aload_n 0, 1) := by decide +kernel
theorem dX12_makes_40 : decode cX12_makes 40 = .ok (.getfield 17, 3) := by decide +kernel
theorem dX12_makes_43 : decode cX12_makes 43 = .ok (.iload 5, 2) := by decide +kernel
theorem dX12_makes_45 : decode cX12_makes 45 = .ok (.iload 4, 2) := by decide +kernel
theorem dX12_makes_47 : decode cX12_makes 47 = .ok (.iastore, 1) := by decide +kernel
theorem dX12_makes_48 : decode cX12_makes 48 = .ok (.iconst 0, 1) := by decide +kernel
theorem dX12_makes_49 : decode cX12_makes 49 = .ok (.istore 6, 2) := by decide +kernel
theorem dX12_makes_51 : decode cX12_makes 51 = .ok (.iload 6, 2) := by decide +kernel
theorem dX12_makes_53 : decode cX12_makes 53 = .ok (.iload 4, 2) := by decide +kernel
theorem dX12_makes_55 : decode cX12_makes 55 = .ok (.if_icmp .ge 28, 3) := by decide +kernel
theorem dX12_makes_58 : decode cX12_makes 58 = .ok (.aload_n 0, 1) := by decide +kernel
theorem dX12_makes_59 : decode cX12_makes 59 = .ok (.getfield 13, 3) := by decide +kernel
theorem dX12_makes_62 : decode cX12_makes 62 = .ok (.bipush 10, 2) := by decide +kernel
theorem dX12_makes_64 : decode cX12_makes 64 = .ok (.iload 5, 2) := by decide +kernel
theorem dX12_makes_66 : decode cX12_makes 66 = .ok (.imul, 1) := by decide +kernel
theorem dX12_makes_67 : decode cX12_makes 67 = .ok (.iload 6, 2) := by decide +kernel
theorem dX12_makes_69 : decode cX12_makes 69 = .ok (.iadd, 1) := by decide +kernel
theorem dX12_makes_70 : decode cX12_makes 70 = .ok (.aload_n 2, 1) := by decide +kernel
theorem dX12_makes_71 : decode cX12_makes 71 = .ok (.iload_n 3, 1) := by decide +kernel
theorem dX12_makes_72 : decode cX12_makes 72 = .ok (.iload 6, 2) := by decide +kernel
theorem dX12_makes_74 : decode cX12_makes 74 = .ok (.iadd, 1) := by decide +kernel
theorem dX12_makes_75 : decode cX12_makes 75 = .ok (.baload, 1) := by decide +kernel
theorem dX12_makes_76 : decode cX12_makes 76 = .ok (.bastore, 1) := by decide +kernel
theorem dX12_makes_77 : decode cX12_makes 77 = .ok (.iinc 6 1, 3) := by decide +kernel
theorem dX12_makes_80 : decode cX12_makes 80 = .ok (.goto (-29), 3) := by decide +kernel
theorem dX12_makes_83 : decode cX12_makes 83 = .ok (.iload 5, 2) := by decide +kernel
theorem dX12_makes_85 : decode cX12_makes 85 = .ok (.ireturn, 1) := by decide +kernel
theorem dX12_isIn_0 : decode cX12_isIn 0 = .ok (.iload_n 1, 1) := by decide +kernel
theorem dX12_isIn_1 : decode cX12_isIn 1 = .ok (.istore_n 3, 1) := by decide +kernel
theorem dX12_isIn_2 : decode cX12_isIn 2 = .ok (.aload_n 0, 1) := by decide +kernel
theorem dX12_isIn_3 : decode cX12_isIn 3 = .ok (.getfield 20, 3) := by decide +kernel
theorem dX12_isIn_6 : decode cX12_isIn 6 = .ok (.iload_n 3, 1) := by decide +kernel
theorem dX12_isIn_7 : decode cX12_isIn 7 = .ok (.iaload, 1) := by decide +kernel
theorem dX12_isIn_8 : decode cX12_isIn 8 = .ok (.aload_n 0, 1) := by decide +kernel
theorem dX12_isIn_9 : decode cX12_isIn 9 = .ok (.getfield 20, 3) := by decide +kernel
theorem dX12_isIn_12 : decode cX12_isIn 12 = .ok (.iload_n 2, 1) := by decide +kernel
theorem dX12_isIn_13 : decode cX12_isIn 13 = .ok (.iaload, 1) := by decide +kernel
theorem dX12_isIn_14 : decode cX12_isIn 14 = .ok (.if_icmp .le 13, 3) := by decide +kernel
theorem dX12_isIn_17 : decode cX12_isIn 17 = .ok (.aload_n 0, 1) := by decide +kernel
theorem dX12_isIn_18 : decode cX12_isIn 18 = .ok (.getfield 9, 3) := by decide +kernel
theorem dX12_isIn_21 : decode cX12_isIn 21 = .ok (.iload_n 3, 1) := by decide +kernel
theorem dX12_isIn_22 : decode cX12_isIn 22 = .ok (.iaload, 1) := by decide +kernel
theorem dX12_isIn_23 : decode cX12_isIn 23 = .ok (.istore_n 3, 1) := by decide +kernel
theorem dX12_isIn_24 : decode cX12_isIn 24 = .ok (.goto (-22), 3) := by decide +kernel
theorem dX12_isIn_27 : decode cX12_isIn 27 = .ok (.iload_n 3, 1) := by decide +kernel
theorem dX12_isIn_28 : decode cX12_isIn 28 = .ok (.iload_n 2, 1) := by decide +kernel
theorem dX12_isIn_29 : decode cX12_isIn 29 = .ok (.if_icmp .ne 7, 3) := by decide +kernel
theorem dX12_isIn_32 : decode cX12_isIn 32 = .ok (.iconst 1, 1) := by decide +kernel
theorem dX12_isIn_33 : decode cX12_isIn 33 = .ok (.goto 4, 3) := by decide +kernel
theorem dX12_isIn_36 : decode cX12_isIn 36 = .ok (.iconst 0, 1) := by decide +kernel
theorem dX12_isIn_37 : decode cX12_isIn 37 = .ok (.ireturn, 1) := by decide +kernel
theorem dX12_isLetter_0 : decode cX12_isLetter 0 = .ok (.iload_n 0, 1) := by decide +kernel
theorem dX12_isLetter_1 : decode cX12_isLetter 1 = .ok (.bipush 97, 2) := by decide +kernel
theorem dX12_isLetter_3 : decode cX12_isLetter 3 = .ok (.if_icmp .lt 9, 3) := by decide +kernel
theorem dX12_isLetter_6 : decode cX12_isLetter 6 = .ok (.iload_n 0, 1) := by decide +kernel
theorem dX12_isLetter_7 : decode cX12_isLetter 7 = .ok (.bipush 122, 2) := by decide +kernel
theorem dX12_isLetter_9 : decode cX12_isLetter 9 = .ok (.if_icmp .le 21, 3) := by decide +kernel
theorem dX12_isLetter_12 : decode cX12_isLetter 12 = .ok (.iload_n 0, 1) := by decide +kernel
theorem dX12_isLetter_13 : decode cX12_isLetter 13 = .ok (.bipush 48, 2) := by decide +kernel
theorem dX12_isLetter_15 : decode cX12_isLetter 15 = .ok (.if_icmp .lt 9, 3) := by decide +kernel
theorem dX12_isLetter_18 : decode cX12_isLetter 18 = .ok (.iload_n 0, 1) := by decide +kernel
theorem dX12_isLetter_19 : decode cX12_isLetter 19 = .ok (.bipush 57, 2) := by decide +kernel
theorem dX12_isLetter_21 : decode cX12_isLetter 21 = .ok (.if_icmp .le 9, 3) := by decide +kernel
theorem dX12_isLetter_24 : decode cX12_isLetter 24 = .ok (.iload_n 0, 1) := by decide +kernel
theorem dX12_isLetter_25 : decode cX12_isLetter 25 = .ok (.bipush 45, 2) := by decide +kernel
theorem dX12_isLetter_27 : decode cX12_isLetter 27 = .ok (.if_icmp .ne 7, 3) := by decide +kernel
theorem dX12_isLetter_30 : decode cX12_isLetter 30 = .ok (.iconst 1, 1) := by decide +kernel
theorem dX12_isLetter_31 : decode cX12_isLetter 31 = .ok (.goto 4, 3) := by decide +kernel
theorem dX12_isLetter_34 : decode cX12_isLetter 34 = .ok (.iconst 0, 1) := by decide +kernel
theorem dX12_isLetter_35 : decode cX12_isLetter 35 = .ok (.ireturn, 1) := by decide +kernel
theorem dX12_missing_0 : decode cX12_missing 0 = .ok (.iconst 0, 1) := by decide +kernel
theorem dX12_missing_1 : decode cX12_missing 1 = .ok (.istore_n 2, 1) := by decide +kernel
theorem dX12_missing_2 : decode cX12_missing 2 = .ok (.aload_n 0, 1) := by decide +kernel
theorem dX12_missing_3 : decode cX12_missing 3 = .ok (.getfield 152, 3) := by decide +kernel
theorem dX12_missing_6 : decode cX12_missing 6 = .ok (.iconst 1, 1) := by decide +kernel
theorem dX12_missing_7 : decode cX12_missing 7 = .ok (.isub, 1) := by decide +kernel
theorem dX12_missing_8 : decode cX12_missing 8 = .ok (.istore_n 3, 1) := by decide +kernel
theorem dX12_missing_9 : decode cX12_missing 9 = .ok (.iload_n 3, 1) := by decide +kernel
theorem dX12_missing_10 : decode cX12_missing 10 = .ok (.ifCond .lt 36, 3) := by decide +kernel
theorem dX12_missing_13 : decode cX12_missing 13 = .ok (.aload_n 0, 1) := by decide +kernel
theorem dX12_missing_14 : decode cX12_missing 14 = .ok (.iload_n 2, 1) := by decide +kernel
theorem dX12_missing_15 : decode cX12_missing 15 = .ok (.aload_n 1, 1) := by decide +kernel
theorem dX12_missing_16 : decode cX12_missing 16 = .ok (.aload_n 0, 1) := by decide +kernel
theorem dX12_missing_17 : decode cX12_missing 17 = .ok (.getfield 27, 3) := by decide +kernel
theorem dX12_missing_20 : decode cX12_missing 20 = .ok (.iload_n 3, 1) := by decide +kernel
theorem dX12_missing_21 : decode cX12_missing 21 = .ok (.iaload, 1) := by decide +kernel
theorem dX12_missing_22 : decode cX12_missing 22 = .ok (.aload_n 0, 1) := by decide +kernel
theorem dX12_missing_23 : decode cX12_missing 23 = .ok (.getfield 30, 3) := by decide +kernel
theorem dX12_missing_26 : decode cX12_missing 26 = .ok (.iload_n 3, 1) := by decide +kernel
theorem dX12_missing_27 : decode cX12_missing 27 = .ok (.iaload, 1) := by decide +kernel
theorem dX12_missing_28 : decode cX12_missing 28 = .ok (.invokevirtual 155, 3) := by decide +kernel
theorem dX12_missing_31 : decode cX12_missing 31 = .ok (.istore_n 2, 1) := by decide +kernel
theorem dX12_missing_32 : decode cX12_missing 32 = .ok (.iload_n 2, 1) := by decide +kernel
theorem dX12_missing_33 : decode cX12_missing 33 = .ok (.ifCond .ge 7, 3) := by decide +kernel
theorem dX12_missing_36 : decode cX12_missing 36 = .ok (.iload_n 3, 1) := by decide +kernel
theorem dX12_missing_37 : decode cX12_missing 37 = .ok (.iconst 1, 1) := by decide +kernel
theorem dX12_missing_38 : decode cX12_missing 38 = .ok (.iadd, 1) := by decide +kernel
theorem dX12_missing_39 : decode cX12_missing 39 = .ok (.ireturn, 1) := by decide +kernel
theorem dX12_missing_40 : decode cX12_missing 40 = .ok (.iinc 3 (-1), 3) := by decide +kernel
theorem dX12_missing_43 : decode cX12_missing 43 = .ok (.goto (-34), 3) := by decide +kernel
theorem dX12_missing_46 : decode cX12_missing 46 = .ok (.iconst 0, 1) := by decide +kernel
theorem dX12_missing_47 : decode cX12_missing 47 = .ok (.ireturn, 1) := by decide +kernel
theorem dX12_named_0 : decode cX12_named 0 = .ok (.iconst 0, 1) := by decide +kernel
theorem dX12_named_1 : decode cX12_named 1 = .ok (.istore_n 2, 1) := by decide +kernel
theorem dX12_named_2 : decode cX12_named 2 = .ok (.aload_n 0, 1) := by decide +kernel
theorem dX12_named_3 : decode cX12_named 3 = .ok (.getfield 152, 3) := by decide +kernel
theorem dX12_named_6 : decode cX12_named 6 = .ok (.iconst 1, 1) := by decide +kernel
theorem dX12_named_7 : decode cX12_named 7 = .ok (.isub, 1) := by decide +kernel
theorem dX12_named_8 : decode cX12_named 8 = .ok (.istore_n 3, 1) := by decide +kernel
theorem dX12_named_9 : decode cX12_named 9 = .ok (.iload_n 3, 1) := by decide +kernel
theorem dX12_named_10 : decode cX12_named 10 = .ok (.ifCond .lt 75, 3) := by decide +kernel
theorem dX12_named_13 : decode cX12_named 13 = .ok (.aload_n 0, 1) := by decide +kernel
theorem dX12_named_14 : decode cX12_named 14 = .ok (.iload_n 2, 1) := by decide +kernel
theorem dX12_named_15 : decode cX12_named 15 = .ok (.aload_n 1, 1) := by decide +kernel
theorem dX12_named_16 : decode cX12_named 16 = .ok (.aload_n 0, 1) := by decide +kernel
theorem dX12_named_17 : decode cX12_named 17 = .ok (.getfield 27, 3) := by decide +kernel
theorem dX12_named_20 : decode cX12_named 20 = .ok (.iload_n 3, 1) := by decide +kernel
theorem dX12_named_21 : decode cX12_named 21 = .ok (.iaload, 1) := by decide +kernel
theorem dX12_named_22 : decode cX12_named 22 = .ok (.aload_n 0, 1) := by decide +kernel
theorem dX12_named_23 : decode cX12_named 23 = .ok (.getfield 30, 3) := by decide +kernel
theorem dX12_named_26 : decode cX12_named 26 = .ok (.iload_n 3, 1) := by decide +kernel
theorem dX12_named_27 : decode cX12_named 27 = .ok (.iaload, 1) := by decide +kernel
theorem dX12_named_28 : decode cX12_named 28 = .ok (.invokevirtual 155, 3) := by decide +kernel
theorem dX12_named_31 : decode cX12_named 31 = .ok (.istore 4, 2) := by decide +kernel
theorem dX12_named_33 : decode cX12_named 33 = .ok (.iload 4, 2) := by decide +kernel
theorem dX12_named_35 : decode cX12_named 35 = .ok (.ifCond .ge 15, 3) := by decide +kernel
theorem dX12_named_38 : decode cX12_named 38 = .ok (.aload_n 0, 1) := by decide +kernel
theorem dX12_named_39 : decode cX12_named 39 = .ok (.getfield 23, 3) := by decide +kernel
theorem dX12_named_42 : decode cX12_named 42 = .ok (.sipush 300, 3) := by decide +kernel
theorem dX12_named_45 : decode cX12_named 45 = .ok (.if_icmp .ne 5, 3) := by decide +kernel
theorem dX12_named_48 : decode cX12_named 48 = .ok (.iconst (-1), 1) := by decide +kernel
theorem dX12_named_49 : decode cX12_named 49 = .ok (.ireturn, 1) := by decide +kernel
theorem dX12_named_50 : decode cX12_named 50 = .ok (.iload 4, 2) := by decide +kernel
theorem dX12_named_52 : decode cX12_named 52 = .ok (.ifCond .ge 24, 3) := by decide +kernel
theorem dX12_named_55 : decode cX12_named 55 = .ok (.aload_n 0, 1) := by decide +kernel
theorem dX12_named_56 : decode cX12_named 56 = .ok (.iload_n 2, 1) := by decide +kernel
theorem dX12_named_57 : decode cX12_named 57 = .ok (.aload_n 1, 1) := by decide +kernel
theorem dX12_named_58 : decode cX12_named 58 = .ok (.aload_n 0, 1) := by decide +kernel
theorem dX12_named_59 : decode cX12_named 59 = .ok (.getfield 27, 3) := by decide +kernel
theorem dX12_named_62 : decode cX12_named 62 = .ok (.iload_n 3, 1) := by decide +kernel
theorem dX12_named_63 : decode cX12_named 63 = .ok (.iaload, 1) := by decide +kernel
theorem dX12_named_64 : decode cX12_named 64 = .ok (.aload_n 0, 1) := by decide +kernel
theorem dX12_named_65 : decode cX12_named 65 = .ok (.getfield 30, 3) := by decide +kernel
theorem dX12_named_68 : decode cX12_named 68 = .ok (.iload_n 3, 1) := by decide +kernel
theorem dX12_named_69 : decode cX12_named 69 = .ok (.iaload, 1) := by decide +kernel
theorem dX12_named_70 : decode cX12_named 70 = .ok (.invokevirtual 159, 3) := by decide +kernel
theorem dX12_named_73 : decode cX12_named 73 = .ok (.goto 5, 3) := by decide +kernel
theorem dX12_named_76 : decode cX12_named 76 = .ok (.iload 4, 2) := by decide +kernel
theorem dX12_named_78 : decode cX12_named 78 = .ok (.istore_n 2, 1) := by decide +kernel
theorem dX12_named_79 : decode cX12_named 79 = .ok (.iinc 3 (-1), 3) := by decide +kernel
theorem dX12_named_82 : decode cX12_named 82 = .ok (.goto (-73), 3) := by decide +kernel
theorem dX12_named_85 : decode cX12_named 85 = .ok (.iload_n 2, 1) := by decide +kernel
theorem dX12_named_86 : decode cX12_named 86 = .ok (.ireturn, 1) := by decide +kernel
theorem dX12_feed_0 : decode cX12_feed 0 = .ok (.aload_n 0, 1) := by decide +kernel
theorem dX12_feed_1 : decode cX12_feed 1 = .ok (.iconst 0, 1) := by decide +kernel
theorem dX12_feed_2 : decode cX12_feed 2 = .ok (.putfield 149, 3) := by decide +kernel
theorem dX12_feed_5 : decode cX12_feed 5 = .ok (.aload_n 0, 1) := by decide +kernel
theorem dX12_feed_6 : decode cX12_feed 6 = .ok (.getfield 162, 3) := by decide +kernel
theorem dX12_feed_9 : decode cX12_feed 9 = .ok (.bipush 20, 2) := by decide +kernel
theorem dX12_feed_11 : decode cX12_feed 11 = .ok (.iadd, 1) := by decide +kernel
theorem dX12_feed_12 : decode cX12_feed 12 = .ok (.sipush 1000, 3) := by decide +kernel
theorem dX12_feed_15 : decode cX12_feed 15 = .ok (.if_icmp .le 5, 3) := by decide +kernel
theorem dX12_feed_18 : decode cX12_feed 18 = .ok (.iconst (-1), 1) := by decide +kernel
theorem dX12_feed_19 : decode cX12_feed 19 = .ok (.ireturn, 1) := by decide +kernel
theorem dX12_feed_20 : decode cX12_feed 20 = .ok (.aload_n 0, 1) := by decide +kernel
theorem dX12_feed_21 : decode cX12_feed 21 = .ok (.getfield 36, 3) := by decide +kernel
theorem dX12_feed_24 : decode cX12_feed 24 = .ok (.iconst 0, 1) := by decide +kernel
theorem dX12_feed_25 : decode cX12_feed 25 = .ok (.iload_n 1, 1) := by decide +kernel
theorem dX12_feed_26 : decode cX12_feed 26 = .ok (.iastore, 1) := by decide +kernel
theorem dX12_feed_27 : decode cX12_feed 27 = .ok (.aload_n 0, 1) := by decide +kernel
theorem dX12_feed_28 : decode cX12_feed 28 = .ok (.getfield 36, 3) := by decide +kernel
theorem dX12_feed_31 : decode cX12_feed 31 = .ok (.iconst 1, 1) := by decide +kernel
theorem dX12_feed_32 : decode cX12_feed 32 = .ok (.iload_n 2, 1) := by decide +kernel
theorem dX12_feed_33 : decode cX12_feed 33 = .ok (.iastore, 1) := by decide +kernel
theorem dX12_feed_34 : decode cX12_feed 34 = .ok (.aload_n 0, 1) := by decide +kernel
theorem dX12_feed_35 : decode cX12_feed 35 = .ok (.getfield 36, 3) := by decide +kernel
theorem dX12_feed_38 : decode cX12_feed 38 = .ok (.iconst 2, 1) := by decide +kernel
theorem dX12_feed_39 : decode cX12_feed 39 = .ok (.iload_n 3, 1) := by decide +kernel
theorem dX12_feed_40 : decode cX12_feed 40 = .ok (.iastore, 1) := by decide +kernel
theorem dX12_feed_41 : decode cX12_feed 41 = .ok (.aload_n 0, 1) := by decide +kernel
theorem dX12_feed_42 : decode cX12_feed 42 = .ok (.getfield 36, 3) := by decide +kernel
theorem dX12_feed_45 : decode cX12_feed 45 = .ok (.iconst 3, 1) := by decide +kernel
theorem dX12_feed_46 : decode cX12_feed 46 = .ok (.iload 4, 2) := by decide +kernel
theorem dX12_feed_48 : decode cX12_feed 48 = .ok (.iastore, 1) := by decide +kernel
theorem dX12_feed_49 : decode cX12_feed 49 = .ok (.aload_n 0, 1) := by decide +kernel
theorem dX12_feed_50 : decode cX12_feed 50 = .ok (.getfield 36, 3) := by decide +kernel
theorem dX12_feed_53 : decode cX12_feed 53 = .ok (.iconst 4, 1) := by decide +kernel
theorem dX12_feed_54 : decode cX12_feed 54 = .ok (.iload 5, 2) := by decide +kernel
theorem dX12_feed_56 : decode cX12_feed 56 = .ok (.iastore, 1) := by decide +kernel
theorem dX12_feed_57 : decode cX12_feed 57 = .ok (.iconst 0, 1) := by decide +kernel
theorem dX12_feed_58 : decode cX12_feed 58 = .ok (.istore 6, 2) := by decide +kernel
theorem dX12_feed_60 : decode cX12_feed 60 = .ok (.iload 6, 2) := by decide +kernel
theorem dX12_feed_62 : decode cX12_feed 62 = .ok (.bipush 20, 2) := by decide +kernel
theorem dX12_feed_64 : decode cX12_feed 64 = .ok (.if_icmp .ge 42, 3) := by decide +kernel
theorem dX12_feed_67 : decode cX12_feed 67 = .ok (.aload_n 0, 1) := by decide +kernel
theorem dX12_feed_68 : decode cX12_feed 68 = .ok (.getfield 33, 3) := by decide +kernel
theorem dX12_feed_71 : decode cX12_feed 71 = .ok (.aload_n 0, 1) := by decide +kernel
theorem dX12_feed_72 : decode cX12_feed 72 = .ok (.getfield 162, 3) := by decide +kernel
theorem dX12_feed_75 : decode cX12_feed 75 = .ok (.iload 6, 2) := by decide +kernel
theorem dX12_feed_77 : decode cX12_feed 77 = .ok (.iadd, 1) := by decide +kernel
theorem dX12_feed_78 : decode cX12_feed 78 = .ok (.aload_n 0, 1) := by decide +kernel
theorem dX12_feed_79 : decode cX12_feed 79 = .ok (.getfield 36, 3) := by decide +kernel
theorem dX12_feed_82 : decode cX12_feed 82 = .ok (.iload 6, 2) := by decide +kernel
theorem dX12_feed_84 : decode cX12_feed 84 = .ok (.iconst 4, 1) := by decide +kernel
theorem dX12_feed_85 : decode cX12_feed 85 = .ok (.idiv, 1) := by decide +kernel
theorem dX12_feed_86 : decode cX12_feed 86 = .ok (.iaload, 1) := by decide +kernel
theorem dX12_feed_87 : decode cX12_feed 87 = .ok (.bipush 24, 2) := by decide +kernel
theorem dX12_feed_89 : decode cX12_feed 89 = .ok (.bipush 8, 2) := by decide +kernel
theorem dX12_feed_91 : decode cX12_feed 91 = .ok (.iload 6, 2) := by decide +kernel
theorem dX12_feed_93 : decode cX12_feed 93 = .ok (.iconst 4, 1) := by decide +kernel
theorem dX12_feed_94 : decode cX12_feed 94 = .ok (.irem, 1) := by decide +kernel
theorem dX12_feed_95 : decode cX12_feed 95 = .ok (.imul, 1) := by decide +kernel
theorem dX12_feed_96 : decode cX12_feed 96 = .ok (.isub, 1) := by decide +kernel
theorem dX12_feed_97 : decode cX12_feed 97 = .ok (.ishr, 1) := by decide +kernel
theorem dX12_feed_98 : decode cX12_feed 98 = .ok (.i2b, 1) := by decide +kernel
theorem dX12_feed_99 : decode cX12_feed 99 = .ok (.bastore, 1) := by decide +kernel
theorem dX12_feed_100 : decode cX12_feed 100 = .ok (.iinc 6 1, 3) := by decide +kernel
theorem dX12_feed_103 : decode cX12_feed 103 = .ok (.goto (-43), 3) := by decide +kernel
theorem dX12_feed_106 : decode cX12_feed 106 = .ok (.aload_n 0, 1) := by decide +kernel
theorem dX12_feed_107 : decode cX12_feed 107 = .ok (.dup, 1) := by decide +kernel
theorem dX12_feed_108 : decode cX12_feed 108 = .ok (.getfield 162, 3) := by decide +kernel
theorem dX12_feed_111 : decode cX12_feed 111 = .ok (.bipush 20, 2) := by decide +kernel
theorem dX12_feed_113 : decode cX12_feed 113 = .ok (.iadd, 1) := by decide +kernel
theorem dX12_feed_114 : decode cX12_feed 114 = .ok (.putfield 162, 3) := by decide +kernel
theorem dX12_feed_117 : decode cX12_feed 117 = .ok (.aload_n 0, 1) := by decide +kernel
theorem dX12_feed_118 : decode cX12_feed 118 = .ok (.getfield 162, 3) := by decide +kernel
theorem dX12_feed_121 : decode cX12_feed 121 = .ok (.ireturn, 1) := by decide +kernel
theorem dX12_end_0 : decode cX12_end 0 = .ok (.aload_n 0, 1) := by decide +kernel
theorem dX12_end_1 : decode cX12_end 1 = .ok (.iconst 0, 1) := by decide +kernel
theorem dX12_end_2 : decode cX12_end 2 = .ok (.putfield 149, 3) := by decide +kernel
theorem dX12_end_5 : decode cX12_end 5 = .ok (.iload_n 1, 1) := by decide +kernel
theorem dX12_end_6 : decode cX12_end 6 = .ok (.ifCond .lt 11, 3) := by decide +kernel
theorem dX12_end_9 : decode cX12_end 9 = .ok (.iload_n 1, 1) := by decide +kernel
theorem dX12_end_10 : decode cX12_end 10 = .ok (.aload_n 0, 1) := by decide +kernel
theorem dX12_end_11 : decode cX12_end 11 = .ok (.getfield 162, 3) := by decide +kernel
theorem dX12_end_14 : decode cX12_end 14 = .ok (.if_icmp .le 5, 3) := by decide +kernel
theorem dX12_end_17 : decode cX12_end 17 = .ok (.iconst 0, 1) := by decide +kernel
theorem dX12_end_18 : decode cX12_end 18 = .ok (.ireturn, 1) := by decide +kernel
theorem dX12_end_19 : decode cX12_end 19 = .ok (.aload_n 0, 1) := by decide +kernel
theorem dX12_end_20 : decode cX12_end 20 = .ok (.iload_n 1, 1) := by decide +kernel
theorem dX12_end_21 : decode cX12_end 21 = .ok (.putfield 162, 3) := by decide +kernel
theorem dX12_end_24 : decode cX12_end 24 = .ok (.iconst 1, 1) := by decide +kernel
theorem dX12_end_25 : decode cX12_end 25 = .ok (.ireturn, 1) := by decide +kernel
theorem dX12_turn_0 : decode cX12_turn 0 = .ok (.aload_n 0, 1) := by decide +kernel
theorem dX12_turn_1 : decode cX12_turn 1 = .ok (.iconst 0, 1) := by decide +kernel
theorem dX12_turn_2 : decode cX12_turn 2 = .ok (.putfield 149, 3) := by decide +kernel
theorem dX12_turn_5 : decode cX12_turn 5 = .ok (.iload_n 1, 1) := by decide +kernel
theorem dX12_turn_6 : decode cX12_turn 6 = .ok (.ifCond .lt 11, 3) := by decide +kernel
theorem dX12_turn_9 : decode cX12_turn 9 = .ok (.iload_n 1, 1) := by decide +kernel
theorem dX12_turn_10 : decode cX12_turn 10 = .ok (.aload_n 0, 1) := by decide +kernel
theorem dX12_turn_11 : decode cX12_turn 11 = .ok (.getfield 162, 3) := by decide +kernel
theorem dX12_turn_14 : decode cX12_turn 14 = .ok (.if_icmp .lt 5, 3) := by decide +kernel
theorem dX12_turn_17 : decode cX12_turn 17 = .ok (.iconst 0, 1) := by decide +kernel
theorem dX12_turn_18 : decode cX12_turn 18 = .ok (.ireturn, 1) := by decide +kernel
theorem dX12_turn_19 : decode cX12_turn 19 = .ok (.aload_n 0, 1) := by decide +kernel
theorem dX12_turn_20 : decode cX12_turn 20 = .ok (.getfield 33, 3) := by decide +kernel
theorem dX12_turn_23 : decode cX12_turn 23 = .ok (.iload_n 1, 1) := by decide +kernel
theorem dX12_turn_24 : decode cX12_turn 24 = .ok (.iload_n 2, 1) := by decide +kernel
theorem dX12_turn_25 : decode cX12_turn 25 = .ok (.i2b, 1) := by decide +kernel
theorem dX12_turn_26 : decode cX12_turn 26 = .ok (.bastore, 1) := by decide +kernel
theorem dX12_turn_27 : decode cX12_turn 27 = .ok (.iconst 1, 1) := by decide +kernel
theorem dX12_turn_28 : decode cX12_turn 28 = .ok (.ireturn, 1) := by decide +kernel
theorem dX12_used_0 : decode cX12_used 0 = .ok (.aload_n 0, 1) := by decide +kernel
theorem dX12_used_1 : decode cX12_used 1 = .ok (.iconst 0, 1) := by decide +kernel
theorem dX12_used_2 : decode cX12_used 2 = .ok (.putfield 149, 3) := by decide +kernel
theorem dX12_used_5 : decode cX12_used 5 = .ok (.aload_n 0, 1) := by decide +kernel
theorem dX12_used_6 : decode cX12_used 6 = .ok (.getfield 162, 3) := by decide +kernel
theorem dX12_used_9 : decode cX12_used 9 = .ok (.istore_n 1, 1) := by decide +kernel
theorem dX12_used_10 : decode cX12_used 10 = .ok (.aload_n 0, 1) := by decide +kernel
theorem dX12_used_11 : decode cX12_used 11 = .ok (.iconst 0, 1) := by decide +kernel
theorem dX12_used_12 : decode cX12_used 12 = .ok (.putfield 162, 3) := by decide +kernel
theorem dX12_used_15 : decode cX12_used 15 = .ok (.iload_n 1, 1) := by decide +kernel
theorem dX12_used_16 : decode cX12_used 16 = .ok (.ireturn, 1) := by decide +kernel
theorem dX12_isText_0 : decode cX12_isText 0 = .ok (.aload_n 0, 1) := by decide +kernel
theorem dX12_isText_1 : decode cX12_isText 1 = .ok (.iconst 0, 1) := by decide +kernel
theorem dX12_isText_2 : decode cX12_isText 2 = .ok (.putfield 152, 3) := by decide +kernel
theorem dX12_isText_5 : decode cX12_isText 5 = .ok (.iload_n 1, 1) := by decide +kernel
theorem dX12_isText_6 : decode cX12_isText 6 = .ok (.iconst 1, 1) := by decide +kernel
theorem dX12_isText_7 : decode cX12_isText 7 = .ok (.if_icmp .ne 16, 3) := by decide +kernel
theorem dX12_isText_10 : decode cX12_isText 10 = .ok (.aload_n 0, 1) := by decide +kernel
theorem dX12_isText_11 : decode cX12_isText 11 = .ok (.getfield 33, 3) := by decide +kernel
theorem dX12_isText_14 : decode cX12_isText 14 = .ok (.iconst 0, 1) := by decide +kernel
theorem dX12_isText_15 : decode cX12_isText 15 = .ok (.baload, 1) := by decide +kernel
theorem dX12_isText_16 : decode cX12_isText 16 = .ok (.bipush 46, 2) := by decide +kernel
theorem dX12_isText_18 : decode cX12_isText 18 = .ok (.if_icmp .ne 5, 3) := by decide +kernel
theorem dX12_isText_21 : decode cX12_isText 21 = .ok (.iconst 1, 1) := by decide +kernel
theorem dX12_isText_22 : decode cX12_isText 22 = .ok (.ireturn, 1) := by decide +kernel
theorem dX12_isText_23 : decode cX12_isText 23 = .ok (.iconst 0, 1) := by decide +kernel
theorem dX12_isText_24 : decode cX12_isText 24 = .ok (.istore_n 2, 1) := by decide +kernel
theorem dX12_isText_25 : decode cX12_isText 25 = .ok (.iconst 0, 1) := by decide +kernel
theorem dX12_isText_26 : decode cX12_isText 26 = .ok (.istore_n 3, 1) := by decide +kernel
theorem dX12_isText_27 : decode cX12_isText 27 = .ok (.iload_n 3, 1) := by decide +kernel
theorem dX12_isText_28 : decode cX12_isText 28 = .ok (.iload_n 1, 1) := by decide +kernel
theorem dX12_isText_29 : decode cX12_isText 29 = .ok (.if_icmp .gt 99, 3) := by decide +kernel
theorem dX12_isText_32 : decode cX12_isText 32 = .ok (.iload_n 3, 1) := by decide +kernel
theorem dX12_isText_33 : decode cX12_isText 33 = .ok (.iload_n 1, 1) := by decide +kernel
theorem dX12_isText_34 : decode cX12_isText 34 = .ok (.if_icmp .ge 28, 3) := by decide +kernel
theorem dX12_isText_37 : decode cX12_isText 37 = .ok (.aload_n 0, 1) := by decide +kernel
theorem dX12_isText_38 : decode cX12_isText 38 = .ok (.getfield 33, 3) := by decide +kernel
theorem dX12_isText_41 : decode cX12_isText 41 = .ok (.iload_n 3, 1) := by decide +kernel
theorem dX12_isText_42 : decode cX12_isText 42 = .ok (.baload, 1) := by decide +kernel
theorem dX12_isText_43 : decode cX12_isText 43 = .ok (.bipush 46, 2) := by decide +kernel
theorem dX12_isText_45 : decode cX12_isText 45 = .ok (.if_icmp .eq 17, 3) := by decide +kernel
theorem dX12_isText_48 : decode cX12_isText 48 = .ok (.aload_n 0, 1) := by decide +kernel
theorem dX12_isText_49 : decode cX12_isText 49 = .ok (.getfield 33, 3) := by decide +kernel
theorem dX12_isText_52 : decode cX12_isText 52 = .ok (.iload_n 3, 1) := by decide +kernel
theorem dX12_isText_53 : decode cX12_isText 53 = .ok (.baload, 1) := by decide +kernel
theorem dX12_isText_54 : decode cX12_isText 54 = .ok (.invokestatic 165, 3) := by decide +kernel
theorem dX12_isText_57 : decode cX12_isText 57 = .ok (.ifCond .ne 65, 3) := by decide +kernel
theorem dX12_isText_60 : decode cX12_isText 60 = .ok (.iconst 0, 1) := by decide +kernel
theorem dX12_isText_61 : decode cX12_isText 61 = .ok (.ireturn, 1) := by decide +kernel
theorem dX12_isText_62 : decode cX12_isText 62 = .ok (.iload_n 3, 1) := by decide +kernel
theorem dX12_isText_63 : decode cX12_isText 63 = .ok (.iload_n 2, 1) := by decide +kernel
theorem dX12_isText_64 : decode cX12_isText 64 = .ok (.if_icmp .eq 20, 3) := by decide +kernel
theorem dX12_isText_67 : decode cX12_isText 67 = .ok (.iload_n 3, 1) := by decide +kernel
theorem dX12_isText_68 : decode cX12_isText 68 = .ok (.iload_n 2, 1) := by decide +kernel
theorem dX12_isText_69 : decode cX12_isText 69 = .ok (.isub, 1) := by decide +kernel
theorem dX12_isText_70 : decode cX12_isText 70 = .ok (.bipush 10, 2) := by decide +kernel
theorem dX12_isText_72 : decode cX12_isText 72 = .ok (.if_icmp .gt 12, 3) := by decide +kernel
theorem dX12_isText_75 : decode cX12_isText 75 = .ok (.aload_n 0, 1) := by decide +kernel
theorem dX12_isText_76 : decode cX12_isText 76 = .ok (.getfield 152, 3) := by decide +kernel
theorem dX12_isText_79 : decode cX12_isText 79 = .ok (.bipush 6, 2) := by decide +kernel
theorem dX12_isText_81 : decode cX12_isText 81 = .ok (.if_icmp .ne 5, 3) := by decide +kernel
theorem dX12_isText_84 : decode cX12_isText 84 = .ok (.iconst 0, 1) := by decide +kernel
theorem dX12_isText_85 : decode cX12_isText 85 = .ok (.ireturn, 1) := by decide +kernel
theorem dX12_isText_86 : decode cX12_isText 86 = .ok (.aload_n 0, 1) := by decide +kernel
theorem dX12_isText_87 : decode cX12_isText 87 = .ok (.getfield 27, 3) := by decide +kernel
theorem dX12_isText_90 : decode cX12_isText 90 = .ok (.aload_n 0, 1) := by decide +kernel
theorem dX12_isText_91 : decode cX12_isText 91 = .ok (.getfield 152, 3) := by decide +kernel
theorem dX12_isText_94 : decode cX12_isText 94 = .ok (.iload_n 2, 1) := by decide +kernel
theorem dX12_isText_95 : decode cX12_isText 95 = .ok (.iastore, 1) := by decide +kernel
theorem dX12_isText_96 : decode cX12_isText 96 = .ok (.aload_n 0, 1) := by decide +kernel
theorem dX12_isText_97 : decode cX12_isText 97 = .ok (.getfield 30, 3) := by decide +kernel
theorem dX12_isText_100 : decode cX12_isText 100 = .ok (.aload_n 0, 1) := by decide +kernel
theorem dX12_isText_101 : decode cX12_isText 101 = .ok (.getfield 152, 3) := by decide +kernel
theorem dX12_isText_104 : decode cX12_isText 104 = .ok (.iload_n 3, 1) := by decide +kernel
theorem dX12_isText_105 : decode cX12_isText 105 = .ok (.iload_n 2, 1) := by decide +kernel
theorem dX12_isText_106 : decode cX12_isText 106 = .ok (.isub, 1) := by decide +kernel
theorem dX12_isText_107 : decode cX12_isText 107 = .ok (.iastore, 1) := by decide +kernel
theorem dX12_isText_108 : decode cX12_isText 108 = .ok (.aload_n 0, 1) := by decide +kernel
theorem dX12_isText_109 : decode cX12_isText 109 = .ok (.dup, 1) := by decide +kernel
theorem dX12_isText_110 : decode cX12_isText 110 = .ok (.getfield 152, 3) := by decide +kernel
theorem dX12_isText_113 : decode cX12_isText 113 = .ok (.iconst 1, 1) := by decide +kernel
theorem dX12_isText_114 : decode cX12_isText 114 = .ok (.iadd, 1) := by decide +kernel
theorem dX12_isText_115 : decode cX12_isText 115 = .ok (.putfield 152, 3) := by decide +kernel
theorem dX12_isText_118 : decode cX12_isText 118 = .ok (.iload_n 3, 1) := by decide +kernel
theorem dX12_isText_119 : decode cX12_isText 119 = .ok (.iconst 1, 1) := by decide +kernel
theorem dX12_isText_120 : decode cX12_isText 120 = .ok (.iadd, 1) := by decide +kernel
theorem dX12_isText_121 : decode cX12_isText 121 = .ok (.istore_n 2, 1) := by decide +kernel
theorem dX12_isText_122 : decode cX12_isText 122 = .ok (.iinc 3 1, 3) := by decide +kernel
theorem dX12_isText_125 : decode cX12_isText 125 = .ok (.goto (-98), 3) := by decide +kernel
theorem dX12_isText_128 : decode cX12_isText 128 = .ok (.iconst 1, 1) := by decide +kernel
theorem dX12_isText_129 : decode cX12_isText 129 = .ok (.ireturn, 1) := by decide +kernel
theorem dX12_name_0 : decode cX12_name 0 = .ok (.aload_n 0, 1) := by decide +kernel
theorem dX12_name_1 : decode cX12_name 1 = .ok (.invokevirtual 169, 3) := by decide +kernel
theorem dX12_name_4 : decode cX12_name 4 = .ok (.istore_n 1, 1) := by decide +kernel
theorem dX12_name_5 : decode cX12_name 5 = .ok (.aload_n 0, 1) := by decide +kernel
theorem dX12_name_6 : decode cX12_name 6 = .ok (.aload_n 0, 1) := by decide +kernel
theorem dX12_name_7 : decode cX12_name 7 = .ok (.iload_n 1, 1) := by decide +kernel
theorem dX12_name_8 : decode cX12_name 8 = .ok (.invokevirtual 173, 3) := by decide +kernel
theorem dX12_name_11 : decode cX12_name 11 = .ok (.ifCond .ne 7, 3) := by decide +kernel
theorem dX12_name_14 : decode cX12_name 14 = .ok (.iconst 1, 1) := by decide +kernel
theorem dX12_name_15 : decode cX12_name 15 = .ok (.goto 4, 3) := by decide +kernel
theorem dX12_name_18 : decode cX12_name 18 = .ok (.iconst 0, 1) := by decide +kernel
theorem dX12_name_19 : decode cX12_name 19 = .ok (.iconst 1, 1) := by decide +kernel
theorem dX12_name_20 : decode cX12_name 20 = .ok (.invokevirtual 176, 3) := by decide +kernel
theorem dX12_name_23 : decode cX12_name 23 = .ok (.ifCond .ne 35, 3) := by decide +kernel
theorem dX12_name_26 : decode cX12_name 26 = .ok (.aload_n 0, 1) := by decide +kernel
theorem dX12_name_27 : decode cX12_name 27 = .ok (.aload_n 0, 1) := by decide +kernel
theorem dX12_name_28 : decode cX12_name 28 = .ok (.getfield 23, 3) := by decide +kernel
theorem dX12_name_31 : decode cX12_name 31 = .ok (.aload_n 0, 1) := by decide +kernel
theorem dX12_name_32 : decode cX12_name 32 = .ok (.aload_n 0, 1) := by decide +kernel
theorem dX12_name_33 : decode cX12_name 33 = .ok (.getfield 33, 3) := by decide +kernel
theorem dX12_name_36 : decode cX12_name 36 = .ok (.invokevirtual 180, 3) := by decide +kernel
theorem dX12_name_39 : decode cX12_name 39 = .ok (.iadd, 1) := by decide +kernel
theorem dX12_name_40 : decode cX12_name 40 = .ok (.sipush 300, 3) := by decide +kernel
theorem dX12_name_43 : decode cX12_name 43 = .ok (.if_icmp .le 7, 3) := by decide +kernel
theorem dX12_name_46 : decode cX12_name 46 = .ok (.iconst 1, 1) := by decide +kernel
theorem dX12_name_47 : decode cX12_name 47 = .ok (.goto 4, 3) := by decide +kernel
theorem dX12_name_50 : decode cX12_name 50 = .ok (.iconst 0, 1) := by decide +kernel
theorem dX12_name_51 : decode cX12_name 51 = .ok (.iconst 2, 1) := by decide +kernel
theorem dX12_name_52 : decode cX12_name 52 = .ok (.invokevirtual 176, 3) := by decide +kernel
theorem dX12_name_55 : decode cX12_name 55 = .ok (.ifCond .eq 5, 3) := by decide +kernel
theorem dX12_name_58 : decode cX12_name 58 = .ok (.iconst 0, 1) := by decide +kernel
theorem dX12_name_59 : decode cX12_name 59 = .ok (.ireturn, 1) := by decide +kernel
theorem dX12_name_60 : decode cX12_name 60 = .ok (.aload_n 0, 1) := by decide +kernel
theorem dX12_name_61 : decode cX12_name 61 = .ok (.aload_n 0, 1) := by decide +kernel
theorem dX12_name_62 : decode cX12_name 62 = .ok (.getfield 33, 3) := by decide +kernel
theorem dX12_name_65 : decode cX12_name 65 = .ok (.invokevirtual 184, 3) := by decide +kernel
theorem dX12_name_68 : decode cX12_name 68 = .ok (.ireturn, 1) := by decide +kernel
theorem dX12_textSize_0 : decode cX12_textSize 0 = .ok (.iload_n 1, 1) := by decide +kernel
theorem dX12_textSize_1 : decode cX12_textSize 1 = .ok (.ifCond .ne 5, 3) := by decide +kernel
theorem dX12_textSize_4 : decode cX12_textSize 4 = .ok (.iconst 1, 1) := by decide +kernel
theorem dX12_textSize_5 : decode cX12_textSize 5 = .ok (.ireturn, 1) := by decide +kernel
theorem dX12_textSize_6 : decode cX12_textSize 6 = .ok (.iconst (-1), 1) := by decide +kernel
theorem dX12_textSize_7 : decode cX12_textSize 7 = .ok (.istore_n 2, 1) := by decide +kernel
theorem dX12_textSize_8 : decode cX12_textSize 8 = .ok (.iload_n 1, 1) := by decide +kernel
theorem dX12_textSize_9 : decode cX12_textSize 9 = .ok (.istore_n 3, 1) := by decide +kernel
theorem dX12_textSize_10 : decode cX12_textSize 10 = .ok (.iload_n 3, 1) := by decide +kernel
theorem dX12_textSize_11 : decode cX12_textSize 11 = .ok (.ifCond .le 24, 3) := by decide +kernel
theorem dX12_textSize_14 : decode cX12_textSize 14 = .ok (.iload_n 2, 1) := by decide +kernel
theorem dX12_textSize_15 : decode cX12_textSize 15 = .ok (.iconst 1, 1) := by decide +kernel
theorem dX12_textSize_16 : decode cX12_textSize 16 = .ok (.aload_n 0, 1) := by decide +kernel
theorem dX12_textSize_17 : decode cX12_textSize 17 = .ok (.getfield 17, 3) := by decide +kernel
theorem dX12_textSize_20 : decode cX12_textSize 20 = .ok (.iload_n 3, 1) := by decide +kernel
theorem dX12_textSize_21 : decode cX12_textSize 21 = .ok (.iaload, 1) := by decide +kernel
theorem dX12_textSize_22 : decode cX12_textSize 22 = .ok (.iadd, 1) := by decide +kernel
theorem dX12_textSize_23 : decode cX12_textSize 23 = .ok (.iadd, 1) := by decide +kernel
theorem dX12_textSize_24 : decode cX12_textSize 24 = .ok (.istore_n 2, 1) := by decide +kernel
theorem dX12_textSize_25 : decode cX12_textSize 25 = .ok (.aload_n 0, 1) := by decide +kernel
theorem dX12_textSize_26 : decode cX12_textSize 26 = .ok (.getfield 9, 3) := by decide +kernel
theorem dX12_textSize_29 : decode cX12_textSize 29 = .ok (.iload_n 3, 1) := by decide +kernel
theorem dX12_textSize_30 : decode cX12_textSize 30 = .ok (.iaload, 1) := by decide +kernel
theorem dX12_textSize_31 : decode cX12_textSize 31 = .ok (.istore_n 3, 1) := by decide +kernel
theorem dX12_textSize_32 : decode cX12_textSize 32 = .ok (.goto (-22), 3) := by decide +kernel
theorem dX12_textSize_35 : decode cX12_textSize 35 = .ok (.iload_n 2, 1) := by decide +kernel
theorem dX12_textSize_36 : decode cX12_textSize 36 = .ok (.ireturn, 1) := by decide +kernel
theorem dX12_look_0 : decode cX12_look 0 = .ok (.aload_n 0, 1) := by decide +kernel
theorem dX12_look_1 : decode cX12_look 1 = .ok (.iconst 0, 1) := by decide +kernel
theorem dX12_look_2 : decode cX12_look 2 = .ok (.putfield 149, 3) := by decide +kernel
theorem dX12_look_5 : decode cX12_look 5 = .ok (.aload_n 0, 1) := by decide +kernel
theorem dX12_look_6 : decode cX12_look 6 = .ok (.aload_n 0, 1) := by decide +kernel
theorem dX12_look_7 : decode cX12_look 7 = .ok (.iload_n 1, 1) := by decide +kernel
theorem dX12_look_8 : decode cX12_look 8 = .ok (.invokevirtual 187, 3) := by decide +kernel
theorem dX12_look_11 : decode cX12_look 11 = .ok (.iconst 1, 1) := by decide +kernel
theorem dX12_look_12 : decode cX12_look 12 = .ok (.invokevirtual 176, 3) := by decide +kernel
theorem dX12_look_15 : decode cX12_look 15 = .ok (.ifCond .eq 5, 3) := by decide +kernel
theorem dX12_look_18 : decode cX12_look 18 = .ok (.iconst 0, 1) := by decide +kernel
theorem dX12_look_19 : decode cX12_look 19 = .ok (.ireturn, 1) := by decide +kernel
theorem dX12_look_20 : decode cX12_look 20 = .ok (.iload_n 2, 1) := by decide +kernel
theorem dX12_look_21 : decode cX12_look 21 = .ok (.tableswitch 47 0 2 #[27, 34, 41], 27) := by decide +kernel
theorem dX12_look_48 : decode cX12_look 48 = .ok (.aload_n 0, 1) := by decide +kernel
theorem dX12_look_49 : decode cX12_look 49 = .ok (.getfield 20, 3) := by decide +kernel
theorem dX12_look_52 : decode cX12_look 52 = .ok (.iload_n 1, 1) := by decide +kernel
theorem dX12_look_53 : decode cX12_look 53 = .ok (.iaload, 1) := by decide +kernel
theorem dX12_look_54 : decode cX12_look 54 = .ok (.ireturn, 1) := by decide +kernel
theorem dX12_look_55 : decode cX12_look 55 = .ok (.aload_n 0, 1) := by decide +kernel
theorem dX12_look_56 : decode cX12_look 56 = .ok (.getfield 9, 3) := by decide +kernel
theorem dX12_look_59 : decode cX12_look 59 = .ok (.iload_n 1, 1) := by decide +kernel
theorem dX12_look_60 : decode cX12_look 60 = .ok (.iaload, 1) := by decide +kernel
theorem dX12_look_61 : decode cX12_look 61 = .ok (.ireturn, 1) := by decide +kernel
theorem dX12_look_62 : decode cX12_look 62 = .ok (.aload_n 0, 1) := by decide +kernel
theorem dX12_look_63 : decode cX12_look 63 = .ok (.iload_n 1, 1) := by decide +kernel
theorem dX12_look_64 : decode cX12_look 64 = .ok (.invokevirtual 190, 3) := by decide +kernel
theorem dX12_look_67 : decode cX12_look 67 = .ok (.ireturn, 1) := by decide +kernel
theorem dX12_look_68 : decode cX12_look 68 = .ok (.aload_n 0, 1) := by decide +kernel
theorem dX12_look_69 : decode cX12_look 69 = .ok (.iconst 2, 1) := by decide +kernel
theorem dX12_look_70 : decode cX12_look 70 = .ok (.putfield 149, 3) := by decide +kernel
theorem dX12_look_73 : decode cX12_look 73 = .ok (.iconst 0, 1) := by decide +kernel
theorem dX12_look_74 : decode cX12_look 74 = .ok (.ireturn, 1) := by decide +kernel
theorem dX12_text_0 : decode cX12_text 0 = .ok (.aload_n 0, 1) := by decide +kernel
theorem dX12_text_1 : decode cX12_text 1 = .ok (.iconst 0, 1) := by decide +kernel
theorem dX12_text_2 : decode cX12_text 2 = .ok (.putfield 149, 3) := by decide +kernel
theorem dX12_text_5 : decode cX12_text 5 = .ok (.aload_n 0, 1) := by decide +kernel
theorem dX12_text_6 : decode cX12_text 6 = .ok (.aload_n 0, 1) := by decide +kernel
theorem dX12_text_7 : decode cX12_text 7 = .ok (.iload_n 1, 1) := by decide +kernel
theorem dX12_text_8 : decode cX12_text 8 = .ok (.invokevirtual 187, 3) := by decide +kernel
theorem dX12_text_11 : decode cX12_text 11 = .ok (.iconst 1, 1) := by decide +kernel
theorem dX12_text_12 : decode cX12_text 12 = .ok (.invokevirtual 176, 3) := by decide +kernel
theorem dX12_text_15 : decode cX12_text 15 = .ok (.ifCond .eq 5, 3) := by decide +kernel
theorem dX12_text_18 : decode cX12_text 18 = .ok (.iconst 0, 1) := by decide +kernel
theorem dX12_text_19 : decode cX12_text 19 = .ok (.ireturn, 1) := by decide +kernel
theorem dX12_text_20 : decode cX12_text 20 = .ok (.iload_n 2, 1) := by decide +kernel
theorem dX12_text_21 : decode cX12_text 21 = .ok (.ifCond .lt 12, 3) := by decide +kernel
theorem dX12_text_24 : decode cX12_text 24 = .ok (.iload_n 2, 1) := by decide +kernel
theorem dX12_text_25 : decode cX12_text 25 = .ok (.aload_n 0, 1) := by decide +kernel
theorem dX12_text_26 : decode cX12_text 26 = .ok (.iload_n 1, 1) := by decide +kernel
theorem dX12_text_27 : decode cX12_text 27 = .ok (.invokevirtual 190, 3) := by decide +kernel
theorem dX12_text_30 : decode cX12_text 30 = .ok (.if_icmp .lt 5, 3) := by decide +kernel
theorem dX12_text_33 : decode cX12_text 33 = .ok (.iconst (-1), 1) := by decide +kernel
theorem dX12_text_34 : decode cX12_text 34 = .ok (.ireturn, 1) := by decide +kernel
theorem dX12_text_35 : decode cX12_text 35 = .ok (.iload_n 1, 1) := by decide +kernel
theorem dX12_text_36 : decode cX12_text 36 = .ok (.ifCond .ne 6, 3) := by decide +kernel
theorem dX12_text_39 : decode cX12_text 39 = .ok (.bipush 46, 2) := by decide +kernel
theorem dX12_text_41 : decode cX12_text 41 = .ok (.ireturn, 1) := by decide +kernel
theorem dX12_text_42 : decode cX12_text 42 = .ok (.iload_n 2, 1) := by decide +kernel
theorem dX12_text_43 : decode cX12_text 43 = .ok (.istore_n 3, 1) := by decide +kernel
theorem dX12_text_44 : decode cX12_text 44 = .ok (.iload_n 1, 1) := by decide +kernel
theorem dX12_text_45 : decode cX12_text 45 = .ok (.istore 4, 2) := by decide +kernel
theorem dX12_text_47 : decode cX12_text 47 = .ok (.iload 4, 2) := by decide +kernel
theorem dX12_text_49 : decode cX12_text 49 = .ok (.ifCond .le 65, 3) := by decide +kernel
theorem dX12_text_52 : decode cX12_text 52 = .ok (.iload_n 3, 1) := by decide +kernel
theorem dX12_text_53 : decode cX12_text 53 = .ok (.aload_n 0, 1) := by decide +kernel
theorem dX12_text_54 : decode cX12_text 54 = .ok (.getfield 17, 3) := by decide +kernel
theorem dX12_text_57 : decode cX12_text 57 = .ok (.iload 4, 2) := by decide +kernel
theorem dX12_text_59 : decode cX12_text 59 = .ok (.iaload, 1) := by decide +kernel
theorem dX12_text_60 : decode cX12_text 60 = .ok (.if_icmp .ge 16, 3) := by decide +kernel
theorem dX12_text_63 : decode cX12_text 63 = .ok (.aload_n 0, 1) := by decide +kernel
theorem dX12_text_64 : decode cX12_text 64 = .ok (.getfield 13, 3) := by decide +kernel
theorem dX12_text_67 : decode cX12_text 67 = .ok (.bipush 10, 2) := by decide +kernel
theorem dX12_text_69 : decode cX12_text 69 = .ok (.iload 4, 2) := by decide +kernel
theorem dX12_text_71 : decode cX12_text 71 = .ok (.imul, 1) := by decide +kernel
theorem dX12_text_72 : decode cX12_text 72 = .ok (.iload_n 3, 1) := by decide +kernel
theorem dX12_text_73 : decode cX12_text 73 = .ok (.iadd, 1) := by decide +kernel
theorem dX12_text_74 : decode cX12_text 74 = .ok (.baload, 1) := by decide +kernel
theorem dX12_text_75 : decode cX12_text 75 = .ok (.ireturn, 1) := by decide +kernel
theorem dX12_text_76 : decode cX12_text 76 = .ok (.iload_n 3, 1) := by decide +kernel
theorem dX12_text_77 : decode cX12_text 77 = .ok (.aload_n 0, 1) := by decide +kernel
theorem dX12_text_78 : decode cX12_text 78 = .ok (.getfield 17, 3) := by decide +kernel
theorem dX12_text_81 : decode cX12_text 81 = .ok (.iload 4, 2) := by decide +kernel
theorem dX12_text_83 : decode cX12_text 83 = .ok (.iaload, 1) := by decide +kernel
theorem dX12_text_84 : decode cX12_text 84 = .ok (.if_icmp .ne 6, 3) := by decide +kernel
theorem dX12_text_87 : decode cX12_text 87 = .ok (.bipush 46, 2) := by decide +kernel
theorem dX12_text_89 : decode cX12_text 89 = .ok (.ireturn, 1) := by decide +kernel
theorem dX12_text_90 : decode cX12_text 90 = .ok (.iload_n 3, 1) := by decide +kernel
theorem dX12_text_91 : decode cX12_text 91 = .ok (.aload_n 0, 1) := by decide +kernel
theorem dX12_text_92 : decode cX12_text 92 = .ok (.getfield 17, 3) := by decide +kernel
theorem dX12_text_95 : decode cX12_text 95 = .ok (.iload 4, 2) := by decide +kernel
theorem dX12_text_97 : decode cX12_text 97 = .ok (.iaload, 1) := by decide +kernel
theorem dX12_text_98 : decode cX12_text 98 = .ok (.iconst 1, 1) := by decide +kernel
theorem dX12_text_99 : decode cX12_text 99 = .ok (.iadd, 1) := by decide +kernel
theorem dX12_text_100 : decode cX12_text 100 = .ok (.isub, 1) := by decide +kernel
theorem dX12_text_101 : decode cX12_text 101 = .ok (.istore_n 3, 1) := by decide +kernel
theorem dX12_text_102 : decode cX12_text 102 = .ok (.aload_n 0, 1) := by decide +kernel
theorem dX12_text_103 : decode cX12_text 103 = .ok (.getfield 9, 3) := by decide +kernel
theorem dX12_text_106 : decode cX12_text 106 = .ok (.iload 4, 2) := by decide +kernel
theorem dX12_text_108 : decode cX12_text 108 = .ok (.iaload, 1) := by decide +kernel
theorem dX12_text_109 : decode cX12_text 109 = .ok (.istore 4, 2) := by decide +kernel
theorem dX12_text_111 : decode cX12_text 111 = .ok (.goto (-64), 3) := by decide +kernel
theorem dX12_text_114 : decode cX12_text 114 = .ok (.iconst (-1), 1) := by decide +kernel
theorem dX12_text_115 : decode cX12_text 115 = .ok (.ireturn, 1) := by decide +kernel
theorem dX12_noZone_0 : decode cX12_noZone 0 = .ok (.iload_n 1, 1) := by decide +kernel
theorem dX12_noZone_1 : decode cX12_noZone 1 = .ok (.ifCond .lt 11, 3) := by decide +kernel
theorem dX12_noZone_4 : decode cX12_noZone 4 = .ok (.iload_n 1, 1) := by decide +kernel
theorem dX12_noZone_5 : decode cX12_noZone 5 = .ok (.aload_n 0, 1) := by decide +kernel
theorem dX12_noZone_6 : decode cX12_noZone 6 = .ok (.getfield 194, 3) := by decide +kernel
theorem dX12_noZone_9 : decode cX12_noZone 9 = .ok (.if_icmp .lt 7, 3) := by decide +kernel
theorem dX12_noZone_12 : decode cX12_noZone 12 = .ok (.iconst 1, 1) := by decide +kernel
theorem dX12_noZone_13 : decode cX12_noZone 13 = .ok (.goto 4, 3) := by decide +kernel
theorem dX12_noZone_16 : decode cX12_noZone 16 = .ok (.iconst 0, 1) := by decide +kernel
theorem dX12_noZone_17 : decode cX12_noZone 17 = .ok (.ireturn, 1) := by decide +kernel
theorem dX12_noServer_0 : decode cX12_noServer 0 = .ok (.iload_n 1, 1) := by decide +kernel
theorem dX12_noServer_1 : decode cX12_noServer 1 = .ok (.ifCond .lt 11, 3) := by decide +kernel
theorem dX12_noServer_4 : decode cX12_noServer 4 = .ok (.iload_n 1, 1) := by decide +kernel
theorem dX12_noServer_5 : decode cX12_noServer 5 = .ok (.aload_n 0, 1) := by decide +kernel
theorem dX12_noServer_6 : decode cX12_noServer 6 = .ok (.getfield 197, 3) := by decide +kernel
theorem dX12_noServer_9 : decode cX12_noServer 9 = .ok (.if_icmp .lt 7, 3) := by decide +kernel
theorem dX12_noServer_12 : decode cX12_noServer 12 = .ok (.iconst 1, 1) := by decide +kernel
theorem dX12_noServer_13 : decode cX12_noServer 13 = .ok (.goto 4, 3) := by decide +kernel
theorem dX12_noServer_16 : decode cX12_noServer 16 = .ok (.iconst 0, 1) := by decide +kernel
theorem dX12_noServer_17 : decode cX12_noServer 17 = .ok (.ireturn, 1) := by decide +kernel
theorem dX12_isType_0 : decode cX12_isType 0 = .ok (.iload_n 0, 1) := by decide +kernel
theorem dX12_isType_1 : decode cX12_isType 1 = .ok (.iconst 1, 1) := by decide +kernel
theorem dX12_isType_2 : decode cX12_isType 2 = .ok (.if_icmp .eq 19, 3) := by decide +kernel
theorem dX12_isType_5 : decode cX12_isType 5 = .ok (.iload_n 0, 1) := by decide +kernel
theorem dX12_isType_6 : decode cX12_isType 6 = .ok (.iconst 2, 1) := by decide +kernel
theorem dX12_isType_7 : decode cX12_isType 7 = .ok (.if_icmp .eq 14, 3) := by decide +kernel
theorem dX12_isType_10 : decode cX12_isType 10 = .ok (.iload_n 0, 1) := by decide +kernel
theorem dX12_isType_11 : decode cX12_isType 11 = .ok (.iconst 5, 1) := by decide +kernel
theorem dX12_isType_12 : decode cX12_isType 12 = .ok (.if_icmp .eq 9, 3) := by decide +kernel
theorem dX12_isType_15 : decode cX12_isType 15 = .ok (.iload_n 0, 1) := by decide +kernel
theorem dX12_isType_16 : decode cX12_isType 16 = .ok (.bipush 16, 2) := by decide +kernel
theorem dX12_isType_18 : decode cX12_isType 18 = .ok (.if_icmp .ne 7, 3) := by decide +kernel
theorem dX12_isType_21 : decode cX12_isType 21 = .ok (.iconst 1, 1) := by decide +kernel
theorem dX12_isType_22 : decode cX12_isType 22 = .ok (.goto 4, 3) := by decide +kernel
theorem dX12_isType_25 : decode cX12_isType 25 = .ok (.iconst 0, 1) := by decide +kernel
theorem dX12_isType_26 : decode cX12_isType 26 = .ok (.ireturn, 1) := by decide +kernel
theorem dX12_isLife_0 : decode cX12_isLife 0 = .ok (.iload_n 0, 1) := by decide +kernel
theorem dX12_isLife_1 : decode cX12_isLife 1 = .ok (.iconst 1, 1) := by decide +kernel
theorem dX12_isLife_2 : decode cX12_isLife 2 = .ok (.if_icmp .lt 13, 3) := by decide +kernel
theorem dX12_isLife_5 : decode cX12_isLife 5 = .ok (.iload_n 0, 1) := by decide +kernel
theorem dX12_isLife_6 : decode cX12_isLife 6 = .ok (.ldc 200, 2) := by decide +kernel
theorem dX12_isLife_8 : decode cX12_isLife 8 = .ok (.if_icmp .gt 7, 3) := by decide +kernel
theorem dX12_isLife_11 : decode cX12_isLife 11 = .ok (.iconst 1, 1) := by decide +kernel
theorem dX12_isLife_12 : decode cX12_isLife 12 = .ok (.goto 4, 3) := by decide +kernel
theorem dX12_isLife_15 : decode cX12_isLife 15 = .ok (.iconst 0, 1) := by decide +kernel
theorem dX12_isLife_16 : decode cX12_isLife 16 = .ok (.ireturn, 1) := by decide +kernel
theorem dX12_zone_0 : decode cX12_zone 0 = .ok (.aload_n 0, 1) := by decide +kernel
theorem dX12_zone_1 : decode cX12_zone 1 = .ok (.iconst 0, 1) := by decide +kernel
theorem dX12_zone_2 : decode cX12_zone 2 = .ok (.putfield 149, 3) := by decide +kernel
theorem dX12_zone_5 : decode cX12_zone 5 = .ok (.aload_n 0, 1) := by decide +kernel
theorem dX12_zone_6 : decode cX12_zone 6 = .ok (.aload_n 0, 1) := by decide +kernel
theorem dX12_zone_7 : decode cX12_zone 7 = .ok (.iload_n 1, 1) := by decide +kernel
theorem dX12_zone_8 : decode cX12_zone 8 = .ok (.invokevirtual 187, 3) := by decide +kernel
theorem dX12_zone_11 : decode cX12_zone 11 = .ok (.iconst 1, 1) := by decide +kernel
theorem dX12_zone_12 : decode cX12_zone 12 = .ok (.invokevirtual 176, 3) := by decide +kernel
theorem dX12_zone_15 : decode cX12_zone 15 = .ok (.ifCond .eq 5, 3) := by decide +kernel
theorem dX12_zone_18 : decode cX12_zone 18 = .ok (.iconst 0, 1) := by decide +kernel
theorem dX12_zone_19 : decode cX12_zone 19 = .ok (.ireturn, 1) := by decide +kernel
theorem dX12_zone_20 : decode cX12_zone 20 = .ok (.iload_n 2, 1) := by decide +kernel
theorem dX12_zone_21 : decode cX12_zone 21 = .ok (.invokestatic 201, 3) := by decide +kernel
theorem dX12_zone_24 : decode cX12_zone 24 = .ok (.istore_n 3, 1) := by decide +kernel
theorem dX12_zone_25 : decode cX12_zone 25 = .ok (.iconst 0, 1) := by decide +kernel
theorem dX12_zone_26 : decode cX12_zone 26 = .ok (.istore 4, 2) := by decide +kernel
theorem dX12_zone_28 : decode cX12_zone 28 = .ok (.iload 4, 2) := by decide +kernel
theorem dX12_zone_30 : decode cX12_zone 30 = .ok (.aload_n 0, 1) := by decide +kernel
theorem dX12_zone_31 : decode cX12_zone 31 = .ok (.getfield 194, 3) := by decide +kernel
theorem dX12_zone_34 : decode cX12_zone 34 = .ok (.if_icmp .ge 30, 3) := by decide +kernel
theorem dX12_zone_37 : decode cX12_zone 37 = .ok (.iload_n 3, 1) := by decide +kernel
theorem dX12_zone_38 : decode cX12_zone 38 = .ok (.ifCond .eq 18, 3) := by decide +kernel
theorem dX12_zone_41 : decode cX12_zone 41 = .ok (.aload_n 0, 1) := by decide +kernel
theorem dX12_zone_42 : decode cX12_zone 42 = .ok (.getfield 39, 3) := by decide +kernel
theorem dX12_zone_45 : decode cX12_zone 45 = .ok (.iload 4, 2) := by decide +kernel
theorem dX12_zone_47 : decode cX12_zone 47 = .ok (.iaload, 1) := by decide +kernel
theorem dX12_zone_48 : decode cX12_zone 48 = .ok (.iload_n 1, 1) := by decide +kernel
theorem dX12_zone_49 : decode cX12_zone 49 = .ok (.if_icmp .eq 7, 3) := by decide +kernel
theorem dX12_zone_52 : decode cX12_zone 52 = .ok (.iconst 1, 1) := by decide +kernel
theorem dX12_zone_53 : decode cX12_zone 53 = .ok (.goto 4, 3) := by decide +kernel
theorem dX12_zone_56 : decode cX12_zone 56 = .ok (.iconst 0, 1) := by decide +kernel
theorem dX12_zone_57 : decode cX12_zone 57 = .ok (.istore_n 3, 1) := by decide +kernel
theorem dX12_zone_58 : decode cX12_zone 58 = .ok (.iinc 4 1, 3) := by decide +kernel
theorem dX12_zone_61 : decode cX12_zone 61 = .ok (.goto (-33), 3) := by decide +kernel
theorem dX12_zone_64 : decode cX12_zone 64 = .ok (.aload_n 0, 1) := by decide +kernel
theorem dX12_zone_65 : decode cX12_zone 65 = .ok (.iload_n 3, 1) := by decide +kernel
theorem dX12_zone_66 : decode cX12_zone 66 = .ok (.ifCond .ne 7, 3) := by decide +kernel
theorem dX12_zone_69 : decode cX12_zone 69 = .ok (.iconst 1, 1) := by decide +kernel
theorem dX12_zone_70 : decode cX12_zone 70 = .ok (.goto 4, 3) := by decide +kernel
theorem dX12_zone_73 : decode cX12_zone 73 = .ok (.iconst 0, 1) := by decide +kernel
theorem dX12_zone_74 : decode cX12_zone 74 = .ok (.iconst 2, 1) := by decide +kernel
theorem dX12_zone_75 : decode cX12_zone 75 = .ok (.invokevirtual 176, 3) := by decide +kernel
theorem dX12_zone_78 : decode cX12_zone 78 = .ok (.ifCond .ne 25, 3) := by decide +kernel
theorem dX12_zone_81 : decode cX12_zone 81 = .ok (.aload_n 0, 1) := by decide +kernel
theorem dX12_zone_82 : decode cX12_zone 82 = .ok (.aload_n 0, 1) := by decide +kernel
theorem dX12_zone_83 : decode cX12_zone 83 = .ok (.getfield 194, 3) := by decide +kernel
theorem dX12_zone_86 : decode cX12_zone 86 = .ok (.bipush 12, 2) := by decide +kernel
theorem dX12_zone_88 : decode cX12_zone 88 = .ok (.if_icmp .ne 7, 3) := by decide +kernel
theorem dX12_zone_91 : decode cX12_zone 91 = .ok (.iconst 1, 1) := by decide +kernel
theorem dX12_zone_92 : decode cX12_zone 92 = .ok (.goto 4, 3) := by decide +kernel
theorem dX12_zone_95 : decode cX12_zone 95 = .ok (.iconst 0, 1) := by decide +kernel
theorem dX12_zone_96 : decode cX12_zone 96 = .ok (.iconst 3, 1) := by decide +kernel
theorem dX12_zone_97 : decode cX12_zone 97 = .ok (.invokevirtual 176, 3) := by decide +kernel
theorem dX12_zone_100 : decode cX12_zone 100 = .ok (.ifCond .eq 5, 3) := by decide +kernel
theorem dX12_zone_103 : decode cX12_zone 103 = .ok (.iconst 0, 1) := by decide +kernel
theorem dX12_zone_104 : decode cX12_zone 104 = .ok (.ireturn, 1) := by decide +kernel
theorem dX12_zone_105 : decode cX12_zone 105 = .ok (.aload_n 0, 1) := by decide +kernel
theorem dX12_zone_106 : decode cX12_zone 106 = .ok (.getfield 39, 3) := by decide +kernel
theorem dX12_zone_109 : decode cX12_zone 109 = .ok (.aload_n 0, 1) := by decide +kernel
theorem dX12_zone_110 : decode cX12_zone 110 = .ok (.getfield 194, 3) := by decide +kernel
theorem dX12_zone_113 : decode cX12_zone 113 = .ok (.iload_n 1, 1) := by decide +kernel
theorem dX12_zone_114 : decode cX12_zone 114 = .ok (.iastore, 1) := by decide +kernel
theorem dX12_zone_115 : decode cX12_zone 115 = .ok (.aload_n 0, 1) := by decide +kernel
theorem dX12_zone_116 : decode cX12_zone 116 = .ok (.getfield 42, 3) := by decide +kernel
theorem dX12_zone_119 : decode cX12_zone 119 = .ok (.aload_n 0, 1) := by decide +kernel
theorem dX12_zone_120 : decode cX12_zone 120 = .ok (.getfield 194, 3) := by decide +kernel
theorem dX12_zone_123 : decode cX12_zone 123 = .ok (.iload_n 2, 1) := by decide +kernel
theorem dX12_zone_124 : decode cX12_zone 124 = .ok (.iastore, 1) := by decide +kernel
theorem dX12_zone_125 : decode cX12_zone 125 = .ok (.aload_n 0, 1) := by decide +kernel
theorem dX12_zone_126 : decode cX12_zone 126 = .ok (.dup, 1) := by decide +kernel
theorem dX12_zone_127 : decode cX12_zone 127 = .ok (.getfield 194, 3) := by decide +kernel
theorem dX12_zone_130 : decode cX12_zone 130 = .ok (.iconst 1, 1) := by decide +kernel
theorem dX12_zone_131 : decode cX12_zone 131 = .ok (.iadd, 1) := by decide +kernel
theorem dX12_zone_132 : decode cX12_zone 132 = .ok (.putfield 194, 3) := by decide +kernel
theorem dX12_zone_135 : decode cX12_zone 135 = .ok (.aload_n 0, 1) := by decide +kernel
theorem dX12_zone_136 : decode cX12_zone 136 = .ok (.getfield 194, 3) := by decide +kernel
theorem dX12_zone_139 : decode cX12_zone 139 = .ok (.iconst 1, 1) := by decide +kernel
theorem dX12_zone_140 : decode cX12_zone 140 = .ok (.isub, 1) := by decide +kernel
theorem dX12_zone_141 : decode cX12_zone 141 = .ok (.ireturn, 1) := by decide +kernel
theorem dX12_recordsOf_0 : decode cX12_recordsOf 0 = .ok (.iconst 0, 1) := by decide +kernel
theorem dX12_recordsOf_1 : decode cX12_recordsOf 1 = .ok (.istore_n 2, 1) := by decide +kernel
theorem dX12_recordsOf_2 : decode cX12_recordsOf 2 = .ok (.iconst 0, 1) := by decide +kernel
theorem dX12_recordsOf_3 : decode cX12_recordsOf 3 = .ok (.istore_n 3, 1) := by decide +kernel
theorem dX12_recordsOf_4 : decode cX12_recordsOf 4 = .ok (.iload_n 3, 1) := by decide +kernel
theorem dX12_recordsOf_5 : decode cX12_recordsOf 5 = .ok (.aload_n 0, 1) := by decide +kernel
theorem dX12_recordsOf_6 : decode cX12_recordsOf 6 = .ok (.getfield 204, 3) := by decide +kernel
theorem dX12_recordsOf_9 : decode cX12_recordsOf 9 = .ok (.if_icmp .ge 27, 3) := by decide +kernel
theorem dX12_recordsOf_12 : decode cX12_recordsOf 12 = .ok (.iload_n 2, 1) := by decide +kernel
theorem dX12_recordsOf_13 : decode cX12_recordsOf 13 = .ok (.aload_n 0, 1) := by decide +kernel
theorem dX12_recordsOf_14 : decode cX12_recordsOf 14 = .ok (.getfield 45, 3) := by decide +kernel
theorem dX12_recordsOf_17 : decode cX12_recordsOf 17 = .ok (.iload_n 3, 1) := by decide +kernel
theorem dX12_recordsOf_18 : decode cX12_recordsOf 18 = .ok (.iaload, 1) := by decide +kernel
theorem dX12_recordsOf_19 : decode cX12_recordsOf 19 = .ok (.iload_n 1, 1) := by decide +kernel
theorem dX12_recordsOf_20 : decode cX12_recordsOf 20 = .ok (.if_icmp .ne 7, 3) := by decide +kernel
theorem dX12_recordsOf_23 : decode cX12_recordsOf 23 = .ok (.iconst 1, 1) := by decide +kernel
theorem dX12_recordsOf_24 : decode cX12_recordsOf 24 = .ok (.goto 4, 3) := by decide +kernel
theorem dX12_recordsOf_27 : decode cX12_recordsOf 27 = .ok (.iconst 0, 1) := by decide +kernel
theorem dX12_recordsOf_28 : decode cX12_recordsOf 28 = .ok (.iadd, 1) := by decide +kernel
theorem dX12_recordsOf_29 : decode cX12_recordsOf 29 = .ok (.istore_n 2, 1) := by decide +kernel
theorem dX12_recordsOf_30 : decode cX12_recordsOf 30 = .ok (.iinc 3 1, 3) := by decide +kernel
theorem dX12_recordsOf_33 : decode cX12_recordsOf 33 = .ok (.goto (-29), 3) := by decide +kernel
theorem dX12_recordsOf_36 : decode cX12_recordsOf 36 = .ok (.iload_n 2, 1) := by decide +kernel
theorem dX12_recordsOf_37 : decode cX12_recordsOf 37 = .ok (.ireturn, 1) := by decide +kernel
theorem dX12_record_0 : decode cX12_record 0 = .ok (.aload_n 0, 1) := by decide +kernel
theorem dX12_record_1 : decode cX12_record 1 = .ok (.iconst 0, 1) := by decide +kernel
theorem dX12_record_2 : decode cX12_record 2 = .ok (.putfield 149, 3) := by decide +kernel
theorem dX12_record_5 : decode cX12_record 5 = .ok (.aload_n 0, 1) := by decide +kernel
theorem dX12_record_6 : decode cX12_record 6 = .ok (.aload_n 0, 1) := by decide +kernel
theorem dX12_record_7 : decode cX12_record 7 = .ok (.iload_n 1, 1) := by decide +kernel
theorem dX12_record_8 : decode cX12_record 8 = .ok (.invokevirtual 207, 3) := by decide +kernel
theorem dX12_record_11 : decode cX12_record 11 = .ok (.ifCond .ne 11, 3) := by decide +kernel
theorem dX12_record_14 : decode cX12_record 14 = .ok (.aload_n 0, 1) := by decide +kernel
theorem dX12_record_15 : decode cX12_record 15 = .ok (.iload_n 2, 1) := by decide +kernel
theorem dX12_record_16 : decode cX12_record 16 = .ok (.invokevirtual 187, 3) := by decide +kernel
theorem dX12_record_19 : decode cX12_record 19 = .ok (.ifCond .eq 7, 3) := by decide +kernel
theorem dX12_record_22 : decode cX12_record 22 = .ok (.iconst 1, 1) := by decide +kernel
theorem dX12_record_23 : decode cX12_record 23 = .ok (.goto 4, 3) := by decide +kernel
theorem dX12_record_26 : decode cX12_record 26 = .ok (.iconst 0, 1) := by decide +kernel
theorem dX12_record_27 : decode cX12_record 27 = .ok (.iconst 1, 1) := by decide +kernel
theorem dX12_record_28 : decode cX12_record 28 = .ok (.invokevirtual 176, 3) := by decide +kernel
theorem dX12_record_31 : decode cX12_record 31 = .ok (.ifCond .eq 5, 3) := by decide +kernel
theorem dX12_record_34 : decode cX12_record 34 = .ok (.iconst 0, 1) := by decide +kernel
theorem dX12_record_35 : decode cX12_record 35 = .ok (.ireturn, 1) := by decide +kernel
theorem dX12_record_36 : decode cX12_record 36 = .ok (.aload_n 0, 1) := by decide +kernel
theorem dX12_record_37 : decode cX12_record 37 = .ok (.iload_n 2, 1) := by decide +kernel
theorem dX12_record_38 : decode cX12_record 38 = .ok (.aload_n 0, 1) := by decide +kernel
theorem dX12_record_39 : decode cX12_record 39 = .ok (.getfield 39, 3) := by decide +kernel
theorem dX12_record_42 : decode cX12_record 42 = .ok (.iload_n 1, 1) := by decide +kernel
theorem dX12_record_43 : decode cX12_record 43 = .ok (.iaload, 1) := by decide +kernel
theorem dX12_record_44 : decode cX12_record 44 = .ok (.invokevirtual 210, 3) := by decide +kernel
theorem dX12_record_47 : decode cX12_record 47 = .ok (.ifCond .eq 41, 3) := by decide +kernel
theorem dX12_record_50 : decode cX12_record 50 = .ok (.iload_n 3, 1) := by decide +kernel
theorem dX12_record_51 : decode cX12_record 51 = .ok (.invokestatic 214, 3) := by decide +kernel
theorem dX12_record_54 : decode cX12_record 54 = .ok (.ifCond .eq 34, 3) := by decide +kernel
theorem dX12_record_57 : decode cX12_record 57 = .ok (.iload 5, 2) := by decide +kernel
theorem dX12_record_59 : decode cX12_record 59 = .ok (.invokestatic 201, 3) := by decide +kernel
theorem dX12_record_62 : decode cX12_record 62 = .ok (.ifCond .eq 26, 3) := by decide +kernel
theorem dX12_record_65 : decode cX12_record 65 = .ok (.iload_n 3, 1) := by decide +kernel
theorem dX12_record_66 : decode cX12_record 66 = .ok (.iconst 2, 1) := by decide +kernel
theorem dX12_record_67 : decode cX12_record 67 = .ok (.if_icmp .eq 8, 3) := by decide +kernel
theorem dX12_record_70 : decode cX12_record 70 = .ok (.iload_n 3, 1) := by decide +kernel
theorem dX12_record_71 : decode cX12_record 71 = .ok (.iconst 5, 1) := by decide +kernel
theorem dX12_record_72 : decode cX12_record 72 = .ok (.if_icmp .ne 12, 3) := by decide +kernel
theorem dX12_record_75 : decode cX12_record 75 = .ok (.aload_n 0, 1) := by decide +kernel
theorem dX12_record_76 : decode cX12_record 76 = .ok (.iload 4, 2) := by decide +kernel
theorem dX12_record_78 : decode cX12_record 78 = .ok (.invokevirtual 187, 3) := by decide +kernel
theorem dX12_record_81 : decode cX12_record 81 = .ok (.ifCond .ne 7, 3) := by decide +kernel
theorem dX12_record_84 : decode cX12_record 84 = .ok (.iconst 1, 1) := by decide +kernel
theorem dX12_record_85 : decode cX12_record 85 = .ok (.goto 4, 3) := by decide +kernel
theorem dX12_record_88 : decode cX12_record 88 = .ok (.iconst 0, 1) := by decide +kernel
theorem dX12_record_89 : decode cX12_record 89 = .ok (.istore 6, 2) := by decide +kernel
theorem dX12_record_91 : decode cX12_record 91 = .ok (.aload_n 0, 1) := by decide +kernel
theorem dX12_record_92 : decode cX12_record 92 = .ok (.iload 6, 2) := by decide +kernel
theorem dX12_record_94 : decode cX12_record 94 = .ok (.ifCond .ne 7, 3) := by decide +kernel
theorem dX12_record_97 : decode cX12_record 97 = .ok (.iconst 1, 1) := by decide +kernel
theorem dX12_record_98 : decode cX12_record 98 = .ok (.goto 4, 3) := by decide +kernel
theorem dX12_record_101 : decode cX12_record 101 = .ok (.iconst 0, 1) := by decide +kernel
theorem dX12_record_102 : decode cX12_record 102 = .ok (.iconst 2, 1) := by decide +kernel
theorem dX12_record_103 : decode cX12_record 103 = .ok (.invokevirtual 176, 3) := by decide +kernel
theorem dX12_record_106 : decode cX12_record 106 = .ok (.ifCond .ne 26, 3) := by decide +kernel
theorem dX12_record_109 : decode cX12_record 109 = .ok (.aload_n 0, 1) := by decide +kernel
theorem dX12_record_110 : decode cX12_record 110 = .ok (.aload_n 0, 1) := by decide +kernel
theorem dX12_record_111 : decode cX12_record 111 = .ok (.getfield 204, 3) := by decide +kernel
theorem dX12_record_114 : decode cX12_record 114 = .ok (.sipush 150, 3) := by decide +kernel
theorem dX12_record_117 : decode cX12_record 117 = .ok (.if_icmp .ne 7, 3) := by decide +kernel
theorem dX12_record_120 : decode cX12_record 120 = .ok (.iconst 1, 1) := by decide +kernel
theorem dX12_record_121 : decode cX12_record 121 = .ok (.goto 4, 3) := by decide +kernel
theorem dX12_record_124 : decode cX12_record 124 = .ok (.iconst 0, 1) := by decide +kernel
theorem dX12_record_125 : decode cX12_record 125 = .ok (.iconst 3, 1) := by decide +kernel
theorem dX12_record_126 : decode cX12_record 126 = .ok (.invokevirtual 176, 3) := by decide +kernel
theorem dX12_record_129 : decode cX12_record 129 = .ok (.ifCond .eq 5, 3) := by decide +kernel
theorem dX12_record_132 : decode cX12_record 132 = .ok (.iconst 0, 1) := by decide +kernel
theorem dX12_record_133 : decode cX12_record 133 = .ok (.ireturn, 1) := by decide +kernel
theorem dX12_record_134 : decode cX12_record 134 = .ok (.aload_n 0, 1) := by decide +kernel
theorem dX12_record_135 : decode cX12_record 135 = .ok (.getfield 45, 3) := by decide +kernel
theorem dX12_record_138 : decode cX12_record 138 = .ok (.aload_n 0, 1) := by decide +kernel
theorem dX12_record_139 : decode cX12_record 139 = .ok (.getfield 204, 3) := by decide +kernel
theorem dX12_record_142 : decode cX12_record 142 = .ok (.iload_n 1, 1) := by decide +kernel
theorem dX12_record_143 : decode cX12_record 143 = .ok (.iastore, 1) := by decide +kernel
theorem dX12_record_144 : decode cX12_record 144 = .ok (.aload_n 0, 1) := by decide +kernel
theorem dX12_record_145 : decode cX12_record 145 = .ok (.getfield 48, 3) := by decide +kernel
theorem dX12_record_148 : decode cX12_record 148 = .ok (.aload_n 0, 1) := by decide +kernel
theorem dX12_record_149 : decode cX12_record 149 = .ok (.getfield 204, 3) := by decide +kernel
theorem dX12_record_152 : decode cX12_record 152 = .ok (.iload_n 2, 1) := by decide +kernel
theorem dX12_record_153 : decode cX12_record 153 = .ok (.iastore, 1) := by decide +kernel
theorem dX12_record_154 : decode cX12_record 154 = .ok (.aload_n 0, 1) := by decide +kernel
theorem dX12_record_155 : decode cX12_record 155 = .ok (.getfield 51, 3) := by decide +kernel
theorem dX12_record_158 : decode cX12_record 158 = .ok (.aload_n 0, 1) := by decide +kernel
theorem dX12_record_159 : decode cX12_record 159 = .ok (.getfield 204, 3) := by decide +kernel
theorem dX12_record_162 : decode cX12_record 162 = .ok (.iload_n 3, 1) := by decide +kernel
theorem dX12_record_163 : decode cX12_record 163 = .ok (.iastore, 1) := by decide +kernel
theorem dX12_record_164 : decode cX12_record 164 = .ok (.aload_n 0, 1) := by decide +kernel
theorem dX12_record_165 : decode cX12_record 165 = .ok (.getfield 54, 3) := by decide +kernel
theorem dX12_record_168 : decode cX12_record 168 = .ok (.aload_n 0, 1) := by decide +kernel
theorem dX12_record_169 : decode cX12_record 169 = .ok (.getfield 204, 3) := by decide +kernel
theorem dX12_record_172 : decode cX12_record 172 = .ok (.iload 4, 2) := by decide +kernel
theorem dX12_record_174 : decode cX12_record 174 = .ok (.iastore, 1) := by decide +kernel
theorem dX12_record_175 : decode cX12_record 175 = .ok (.aload_n 0, 1) := by decide +kernel
theorem dX12_record_176 : decode cX12_record 176 = .ok (.getfield 57, 3) := by decide +kernel
theorem dX12_record_179 : decode cX12_record 179 = .ok (.aload_n 0, 1) := by decide +kernel
theorem dX12_record_180 : decode cX12_record 180 = .ok (.getfield 204, 3) := by decide +kernel
theorem dX12_record_183 : decode cX12_record 183 = .ok (.iload 5, 2) := by decide +kernel
theorem dX12_record_185 : decode cX12_record 185 = .ok (.iastore, 1) := by decide +kernel
theorem dX12_record_186 : decode cX12_record 186 = .ok (.aload_n 0, 1) := by decide +kernel
theorem dX12_record_187 : decode cX12_record 187 = .ok (.dup, 1) := by decide +kernel
theorem dX12_record_188 : decode cX12_record 188 = .ok (.getfield 204, 3) := by decide +kernel
theorem dX12_record_191 : decode cX12_record 191 = .ok (.iconst 1, 1) := by decide +kernel
theorem dX12_record_192 : decode cX12_record 192 = .ok (.iadd, 1) := by decide +kernel
theorem dX12_record_193 : decode cX12_record 193 = .ok (.putfield 204, 3) := by decide +kernel
theorem dX12_record_196 : decode cX12_record 196 = .ok (.aload_n 0, 1) := by decide +kernel
theorem dX12_record_197 : decode cX12_record 197 = .ok (.iload_n 1, 1) := by decide +kernel
theorem dX12_record_198 : decode cX12_record 198 = .ok (.invokevirtual 217, 3) := by decide +kernel
theorem dX12_record_201 : decode cX12_record 201 = .ok (.ireturn, 1) := by decide +kernel
theorem dX12_drop_0 : decode cX12_drop 0 = .ok (.aload_n 0, 1) := by decide +kernel
theorem dX12_drop_1 : decode cX12_drop 1 = .ok (.iconst 0, 1) := by decide +kernel
theorem dX12_drop_2 : decode cX12_drop 2 = .ok (.putfield 149, 3) := by decide +kernel
theorem dX12_drop_5 : decode cX12_drop 5 = .ok (.aload_n 0, 1) := by decide +kernel
theorem dX12_drop_6 : decode cX12_drop 6 = .ok (.aload_n 0, 1) := by decide +kernel
theorem dX12_drop_7 : decode cX12_drop 7 = .ok (.iload_n 1, 1) := by decide +kernel
theorem dX12_drop_8 : decode cX12_drop 8 = .ok (.invokevirtual 207, 3) := by decide +kernel
theorem dX12_drop_11 : decode cX12_drop 11 = .ok (.ifCond .ne 11, 3) := by decide +kernel
theorem dX12_drop_14 : decode cX12_drop 14 = .ok (.aload_n 0, 1) := by decide +kernel
theorem dX12_drop_15 : decode cX12_drop 15 = .ok (.iload_n 2, 1) := by decide +kernel
theorem dX12_drop_16 : decode cX12_drop 16 = .ok (.invokevirtual 187, 3) := by decide +kernel
theorem dX12_drop_19 : decode cX12_drop 19 = .ok (.ifCond .eq 7, 3) := by decide +kernel
theorem dX12_drop_22 : decode cX12_drop 22 = .ok (.iconst 1, 1) := by decide +kernel
theorem dX12_drop_23 : decode cX12_drop 23 = .ok (.goto 4, 3) := by decide +kernel
theorem dX12_drop_26 : decode cX12_drop 26 = .ok (.iconst 0, 1) := by decide +kernel
theorem dX12_drop_27 : decode cX12_drop 27 = .ok (.iconst 1, 1) := by decide +kernel
theorem dX12_drop_28 : decode cX12_drop 28 = .ok (.invokevirtual 176, 3) := by decide +kernel
theorem dX12_drop_31 : decode cX12_drop 31 = .ok (.ifCond .eq 5, 3) := by decide +kernel
theorem dX12_drop_34 : decode cX12_drop 34 = .ok (.iconst 0, 1) := by decide +kernel
theorem dX12_drop_35 : decode cX12_drop 35 = .ok (.ireturn, 1) := by decide +kernel
theorem dX12_drop_36 : decode cX12_drop 36 = .ok (.iconst 0, 1) := by decide +kernel
theorem dX12_drop_37 : decode cX12_drop 37 = .ok (.istore 4, 2) := by decide +kernel
theorem dX12_drop_39 : decode cX12_drop 39 = .ok (.iconst 0, 1) := by decide +kernel
theorem dX12_drop_40 : decode cX12_drop 40 = .ok (.istore 5, 2) := by decide +kernel
theorem dX12_drop_42 : decode cX12_drop 42 = .ok (.iload 5, 2) := by decide +kernel
theorem dX12_drop_44 : decode cX12_drop 44 = .ok (.aload_n 0, 1) := by decide +kernel
theorem dX12_drop_45 : decode cX12_drop 45 = .ok (.getfield 204, 3) := by decide +kernel
theorem dX12_drop_48 : decode cX12_drop 48 = .ok (.if_icmp .ge 118, 3) := by decide +kernel
theorem dX12_drop_51 : decode cX12_drop 51 = .ok (.aload_n 0, 1) := by decide +kernel
theorem dX12_drop_52 : decode cX12_drop 52 = .ok (.getfield 45, 3) := by decide +kernel
theorem dX12_drop_55 : decode cX12_drop 55 = .ok (.iload 5, 2) := by decide +kernel
theorem dX12_drop_57 : decode cX12_drop 57 = .ok (.iaload, 1) := by decide +kernel
theorem dX12_drop_58 : decode cX12_drop 58 = .ok (.iload_n 1, 1) := by decide +kernel
theorem dX12_drop_59 : decode cX12_drop 59 = .ok (.if_icmp .ne 28, 3) := by decide +kernel
theorem dX12_drop_62 : decode cX12_drop 62 = .ok (.aload_n 0, 1) := by decide +kernel
theorem dX12_drop_63 : decode cX12_drop 63 = .ok (.getfield 48, 3) := by decide +kernel
theorem dX12_drop_66 : decode cX12_drop 66 = .ok (.iload 5, 2) := by decide +kernel
theorem dX12_drop_68 : decode cX12_drop 68 = .ok (.iaload, 1) := by decide +kernel
theorem dX12_drop_69 : decode cX12_drop 69 = .ok (.iload_n 2, 1) := by decide +kernel
theorem dX12_drop_70 : decode cX12_drop 70 = .ok (.if_icmp .ne 17, 3) := by decide +kernel
theorem dX12_drop_73 : decode cX12_drop 73 = .ok (.aload_n 0, 1) := by decide +kernel
theorem dX12_drop_74 : decode cX12_drop 74 = .ok (.getfield 51, 3) := by decide +kernel
theorem dX12_drop_77 : decode cX12_drop 77 = .ok (.iload 5, 2) := by decide +kernel
theorem dX12_drop_79 : decode cX12_drop 79 = .ok (.iaload, 1) := by decide +kernel
theorem dX12_drop_80 : decode cX12_drop 80 = .ok (.iload_n 3, 1) := by decide +kernel
theorem dX12_drop_81 : decode cX12_drop 81 = .ok (.if_icmp .ne 6, 3) := by decide +kernel
theorem dX12_drop_84 : decode cX12_drop 84 = .ok (.goto 76, 3) := by decide +kernel
theorem dX12_drop_87 : decode cX12_drop 87 = .ok (.aload_n 0, 1) := by decide +kernel
theorem dX12_drop_88 : decode cX12_drop 88 = .ok (.getfield 45, 3) := by decide +kernel
theorem dX12_drop_91 : decode cX12_drop 91 = .ok (.iload 4, 2) := by decide +kernel
theorem dX12_drop_93 : decode cX12_drop 93 = .ok (.aload_n 0, 1) := by decide +kernel
theorem dX12_drop_94 : decode cX12_drop 94 = .ok (.getfield 45, 3) := by decide +kernel
theorem dX12_drop_97 : decode cX12_drop 97 = .ok (.iload 5, 2) := by decide +kernel
theorem dX12_drop_99 : decode cX12_drop 99 = .ok (.iaload, 1) := by decide +kernel
theorem dX12_drop_100 : decode cX12_drop 100 = .ok (.iastore, 1) := by decide +kernel
theorem dX12_drop_101 : decode cX12_drop 101 = .ok (.aload_n 0, 1) := by decide +kernel
theorem dX12_drop_102 : decode cX12_drop 102 = .ok (.getfield 48, 3) := by decide +kernel
theorem dX12_drop_105 : decode cX12_drop 105 = .ok (.iload 4, 2) := by decide +kernel
theorem dX12_drop_107 : decode cX12_drop 107 = .ok (.aload_n 0, 1) := by decide +kernel
theorem dX12_drop_108 : decode cX12_drop 108 = .ok (.getfield 48, 3) := by decide +kernel
theorem dX12_drop_111 : decode cX12_drop 111 = .ok (.iload 5, 2) := by decide +kernel
theorem dX12_drop_113 : decode cX12_drop 113 = .ok (.iaload, 1) := by decide +kernel
theorem dX12_drop_114 : decode cX12_drop 114 = .ok (.iastore, 1) := by decide +kernel
theorem dX12_drop_115 : decode cX12_drop 115 = .ok (.aload_n 0, 1) := by decide +kernel
theorem dX12_drop_116 : decode cX12_drop 116 = .ok (.getfield 51, 3) := by decide +kernel
theorem dX12_drop_119 : decode cX12_drop 119 = .ok (.iload 4, 2) := by decide +kernel
theorem dX12_drop_121 : decode cX12_drop 121 = .ok (.aload_n 0, 1) := by decide +kernel
theorem dX12_drop_122 : decode cX12_drop 122 = .ok (.getfield 51, 3) := by decide +kernel
theorem dX12_drop_125 : decode cX12_drop 125 = .ok (.iload 5, 2) := by decide +kernel
theorem dX12_drop_127 : decode cX12_drop 127 = .ok (.iaload, 1) := by decide +kernel
theorem dX12_drop_128 : decode cX12_drop 128 = .ok (.iastore, 1) := by decide +kernel
theorem dX12_drop_129 : decode cX12_drop 129 = .ok (.aload_n 0, 1) := by decide +kernel
theorem dX12_drop_130 : decode cX12_drop 130 = .ok (.getfield 54, 3) := by decide +kernel
theorem dX12_drop_133 : decode cX12_drop 133 = .ok (.iload 4, 2) := by decide +kernel
theorem dX12_drop_135 : decode cX12_drop 135 = .ok (.aload_n 0, 1) := by decide +kernel
theorem dX12_drop_136 : decode cX12_drop 136 = .ok (.getfield 54, 3) := by decide +kernel
theorem dX12_drop_139 : decode cX12_drop 139 = .ok (.iload 5, 2) := by decide +kernel
theorem dX12_drop_141 : decode cX12_drop 141 = .ok (.iaload, 1) := by decide +kernel
theorem dX12_drop_142 : decode cX12_drop 142 = .ok (.iastore, 1) := by decide +kernel
theorem dX12_drop_143 : decode cX12_drop 143 = .ok (.aload_n 0, 1) := by decide +kernel
theorem dX12_drop_144 : decode cX12_drop 144 = .ok (.getfield 57, 3) := by decide +kernel
theorem dX12_drop_147 : decode cX12_drop 147 = .ok (.iload 4, 2) := by decide +kernel
theorem dX12_drop_149 : decode cX12_drop 149 = .ok (.aload_n 0, 1) := by decide +kernel
theorem dX12_drop_150 : decode cX12_drop 150 = .ok (.getfield 57, 3) := by decide +kernel
theorem dX12_drop_153 : decode cX12_drop 153 = .ok (.iload 5, 2) := by decide +kernel
theorem dX12_drop_155 : decode cX12_drop 155 = .ok (.iaload, 1) := by decide +kernel
theorem dX12_drop_156 : decode cX12_drop 156 = .ok (.iastore, 1) := by decide +kernel
theorem dX12_drop_157 : decode cX12_drop 157 = .ok (.iinc 4 1, 3) := by decide +kernel
theorem dX12_drop_160 : decode cX12_drop 160 = .ok (.iinc 5 1, 3) := by decide +kernel
theorem dX12_drop_163 : decode cX12_drop 163 = .ok (.goto (-121), 3) := by decide +kernel
theorem dX12_drop_166 : decode cX12_drop 166 = .ok (.aload_n 0, 1) := by decide +kernel
theorem dX12_drop_167 : decode cX12_drop 167 = .ok (.getfield 204, 3) := by decide +kernel
theorem dX12_drop_170 : decode cX12_drop 170 = .ok (.iload 4, 2) := by decide +kernel
theorem dX12_drop_172 : decode cX12_drop 172 = .ok (.isub, 1) := by decide +kernel
theorem dX12_drop_173 : decode cX12_drop 173 = .ok (.istore 5, 2) := by decide +kernel
theorem dX12_drop_175 : decode cX12_drop 175 = .ok (.aload_n 0, 1) := by decide +kernel
theorem dX12_drop_176 : decode cX12_drop 176 = .ok (.iload 4, 2) := by decide +kernel
theorem dX12_drop_178 : decode cX12_drop 178 = .ok (.putfield 204, 3) := by decide +kernel
theorem dX12_drop_181 : decode cX12_drop 181 = .ok (.iload 5, 2) := by decide +kernel
theorem dX12_drop_183 : decode cX12_drop 183 = .ok (.ireturn, 1) := by decide +kernel
theorem dX12_serverOf_0 : decode cX12_serverOf 0 = .ok (.iconst (-1), 1) := by decide +kernel
theorem dX12_serverOf_1 : decode cX12_serverOf 1 = .ok (.istore_n 2, 1) := by decide +kernel
theorem dX12_serverOf_2 : decode cX12_serverOf 2 = .ok (.iconst 0, 1) := by decide +kernel
theorem dX12_serverOf_3 : decode cX12_serverOf 3 = .ok (.istore_n 3, 1) := by decide +kernel
theorem dX12_serverOf_4 : decode cX12_serverOf 4 = .ok (.iload_n 3, 1) := by decide +kernel
theorem dX12_serverOf_5 : decode cX12_serverOf 5 = .ok (.aload_n 0, 1) := by decide +kernel
theorem dX12_serverOf_6 : decode cX12_serverOf 6 = .ok (.getfield 197, 3) := by decide +kernel
theorem dX12_serverOf_9 : decode cX12_serverOf 9 = .ok (.if_icmp .ge 21, 3) := by decide +kernel
theorem dX12_serverOf_12 : decode cX12_serverOf 12 = .ok (.aload_n 0, 1) := by decide +kernel
theorem dX12_serverOf_13 : decode cX12_serverOf 13 = .ok (.getfield 60, 3) := by decide +kernel
theorem dX12_serverOf_16 : decode cX12_serverOf 16 = .ok (.iload_n 3, 1) := by decide +kernel
theorem dX12_serverOf_17 : decode cX12_serverOf 17 = .ok (.iaload, 1) := by decide +kernel
theorem dX12_serverOf_18 : decode cX12_serverOf 18 = .ok (.iload_n 1, 1) := by decide +kernel
theorem dX12_serverOf_19 : decode cX12_serverOf 19 = .ok (.if_icmp .ne 5, 3) := by decide +kernel
theorem dX12_serverOf_22 : decode cX12_serverOf 22 = .ok (.iload_n 3, 1) := by decide +kernel
theorem dX12_serverOf_23 : decode cX12_serverOf 23 = .ok (.istore_n 2, 1) := by decide +kernel
theorem dX12_serverOf_24 : decode cX12_serverOf 24 = .ok (.iinc 3 1, 3) := by decide +kernel
theorem dX12_serverOf_27 : decode cX12_serverOf 27 = .ok (.goto (-23), 3) := by decide +kernel
theorem dX12_serverOf_30 : decode cX12_serverOf 30 = .ok (.iload_n 2, 1) := by decide +kernel
theorem dX12_serverOf_31 : decode cX12_serverOf 31 = .ok (.ireturn, 1) := by decide +kernel
theorem dX12_server_0 : decode cX12_server 0 = .ok (.aload_n 0, 1) := by decide +kernel
theorem dX12_server_1 : decode cX12_server 1 = .ok (.iconst 0, 1) := by decide +kernel
theorem dX12_server_2 : decode cX12_server 2 = .ok (.putfield 149, 3) := by decide +kernel
theorem dX12_server_5 : decode cX12_server 5 = .ok (.aload_n 0, 1) := by decide +kernel
theorem dX12_server_6 : decode cX12_server 6 = .ok (.aload_n 0, 1) := by decide +kernel
theorem dX12_server_7 : decode cX12_server 7 = .ok (.iload_n 1, 1) := by decide +kernel
theorem dX12_server_8 : decode cX12_server 8 = .ok (.invokevirtual 220, 3) := by decide +kernel
theorem dX12_server_11 : decode cX12_server 11 = .ok (.ifCond .lt 7, 3) := by decide +kernel
theorem dX12_server_14 : decode cX12_server 14 = .ok (.iconst 1, 1) := by decide +kernel
theorem dX12_server_15 : decode cX12_server 15 = .ok (.goto 4, 3) := by decide +kernel
theorem dX12_server_18 : decode cX12_server 18 = .ok (.iconst 0, 1) := by decide +kernel
theorem dX12_server_19 : decode cX12_server 19 = .ok (.iconst 1, 1) := by decide +kernel
theorem dX12_server_20 : decode cX12_server 20 = .ok (.invokevirtual 176, 3) := by decide +kernel
theorem dX12_server_23 : decode cX12_server 23 = .ok (.ifCond .ne 25, 3) := by decide +kernel
theorem dX12_server_26 : decode cX12_server 26 = .ok (.aload_n 0, 1) := by decide +kernel
theorem dX12_server_27 : decode cX12_server 27 = .ok (.aload_n 0, 1) := by decide +kernel
theorem dX12_server_28 : decode cX12_server 28 = .ok (.getfield 197, 3) := by decide +kernel
theorem dX12_server_31 : decode cX12_server 31 = .ok (.bipush 12, 2) := by decide +kernel
theorem dX12_server_33 : decode cX12_server 33 = .ok (.if_icmp .ne 7, 3) := by decide +kernel
theorem dX12_server_36 : decode cX12_server 36 = .ok (.iconst 1, 1) := by decide +kernel
theorem dX12_server_37 : decode cX12_server 37 = .ok (.goto 4, 3) := by decide +kernel
theorem dX12_server_40 : decode cX12_server 40 = .ok (.iconst 0, 1) := by decide +kernel
theorem dX12_server_41 : decode cX12_server 41 = .ok (.iconst 2, 1) := by decide +kernel
theorem dX12_server_42 : decode cX12_server 42 = .ok (.invokevirtual 176, 3) := by decide +kernel
theorem dX12_server_45 : decode cX12_server 45 = .ok (.ifCond .eq 5, 3) := by decide +kernel
theorem dX12_server_48 : decode cX12_server 48 = .ok (.iconst 0, 1) := by decide +kernel
theorem dX12_server_49 : decode cX12_server 49 = .ok (.ireturn, 1) := by decide +kernel
theorem dX12_server_50 : decode cX12_server 50 = .ok (.aload_n 0, 1) := by decide +kernel
theorem dX12_server_51 : decode cX12_server 51 = .ok (.getfield 60, 3) := by decide +kernel
theorem dX12_server_54 : decode cX12_server 54 = .ok (.aload_n 0, 1) := by decide +kernel
theorem dX12_server_55 : decode cX12_server 55 = .ok (.getfield 197, 3) := by decide +kernel
theorem dX12_server_58 : decode cX12_server 58 = .ok (.iload_n 1, 1) := by decide +kernel
theorem dX12_server_59 : decode cX12_server 59 = .ok (.iastore, 1) := by decide +kernel
theorem dX12_server_60 : decode cX12_server 60 = .ok (.aload_n 0, 1) := by decide +kernel
theorem dX12_server_61 : decode cX12_server 61 = .ok (.dup, 1) := by decide +kernel
theorem dX12_server_62 : decode cX12_server 62 = .ok (.getfield 197, 3) := by decide +kernel
theorem dX12_server_65 : decode cX12_server 65 = .ok (.iconst 1, 1) := by decide +kernel
theorem dX12_server_66 : decode cX12_server 66 = .ok (.iadd, 1) := by decide +kernel
theorem dX12_server_67 : decode cX12_server 67 = .ok (.putfield 197, 3) := by decide +kernel
theorem dX12_server_70 : decode cX12_server 70 = .ok (.aload_n 0, 1) := by decide +kernel
theorem dX12_server_71 : decode cX12_server 71 = .ok (.getfield 197, 3) := by decide +kernel
theorem dX12_server_74 : decode cX12_server 74 = .ok (.iconst 1, 1) := by decide +kernel
theorem dX12_server_75 : decode cX12_server 75 = .ok (.isub, 1) := by decide +kernel
theorem dX12_server_76 : decode cX12_server 76 = .ok (.ireturn, 1) := by decide +kernel
theorem dX12_serve_0 : decode cX12_serve 0 = .ok (.aload_n 0, 1) := by decide +kernel
theorem dX12_serve_1 : decode cX12_serve 1 = .ok (.iconst 0, 1) := by decide +kernel
theorem dX12_serve_2 : decode cX12_serve 2 = .ok (.putfield 149, 3) := by decide +kernel
theorem dX12_serve_5 : decode cX12_serve 5 = .ok (.aload_n 0, 1) := by decide +kernel
theorem dX12_serve_6 : decode cX12_serve 6 = .ok (.aload_n 0, 1) := by decide +kernel
theorem dX12_serve_7 : decode cX12_serve 7 = .ok (.iload_n 1, 1) := by decide +kernel
theorem dX12_serve_8 : decode cX12_serve 8 = .ok (.invokevirtual 223, 3) := by decide +kernel
theorem dX12_serve_11 : decode cX12_serve 11 = .ok (.ifCond .ne 11, 3) := by decide +kernel
theorem dX12_serve_14 : decode cX12_serve 14 = .ok (.aload_n 0, 1) := by decide +kernel
theorem dX12_serve_15 : decode cX12_serve 15 = .ok (.iload_n 2, 1) := by decide +kernel
theorem dX12_serve_16 : decode cX12_serve 16 = .ok (.invokevirtual 207, 3) := by decide +kernel
theorem dX12_serve_19 : decode cX12_serve 19 = .ok (.ifCond .eq 7, 3) := by decide +kernel
theorem dX12_serve_22 : decode cX12_serve 22 = .ok (.iconst 1, 1) := by decide +kernel
theorem dX12_serve_23 : decode cX12_serve 23 = .ok (.goto 4, 3) := by decide +kernel
theorem dX12_serve_26 : decode cX12_serve 26 = .ok (.iconst 0, 1) := by decide +kernel
theorem dX12_serve_27 : decode cX12_serve 27 = .ok (.iconst 1, 1) := by decide +kernel
theorem dX12_serve_28 : decode cX12_serve 28 = .ok (.invokevirtual 176, 3) := by decide +kernel
theorem dX12_serve_31 : decode cX12_serve 31 = .ok (.ifCond .eq 5, 3) := by decide +kernel
theorem dX12_serve_34 : decode cX12_serve 34 = .ok (.iconst 0, 1) := by decide +kernel
theorem dX12_serve_35 : decode cX12_serve 35 = .ok (.ireturn, 1) := by decide +kernel
theorem dX12_serve_36 : decode cX12_serve 36 = .ok (.aload_n 0, 1) := by decide +kernel
theorem dX12_serve_37 : decode cX12_serve 37 = .ok (.getfield 63, 3) := by decide +kernel
theorem dX12_serve_40 : decode cX12_serve 40 = .ok (.bipush 12, 2) := by decide +kernel
theorem dX12_serve_42 : decode cX12_serve 42 = .ok (.iload_n 1, 1) := by decide +kernel
theorem dX12_serve_43 : decode cX12_serve 43 = .ok (.imul, 1) := by decide +kernel
theorem dX12_serve_44 : decode cX12_serve 44 = .ok (.iload_n 2, 1) := by decide +kernel
theorem dX12_serve_45 : decode cX12_serve 45 = .ok (.iadd, 1) := by decide +kernel
theorem dX12_serve_46 : decode cX12_serve 46 = .ok (.baload, 1) := by decide +kernel
theorem dX12_serve_47 : decode cX12_serve 47 = .ok (.istore 4, 2) := by decide +kernel
theorem dX12_serve_49 : decode cX12_serve 49 = .ok (.aload_n 0, 1) := by decide +kernel
theorem dX12_serve_50 : decode cX12_serve 50 = .ok (.getfield 63, 3) := by decide +kernel
theorem dX12_serve_53 : decode cX12_serve 53 = .ok (.bipush 12, 2) := by decide +kernel
theorem dX12_serve_55 : decode cX12_serve 55 = .ok (.iload_n 1, 1) := by decide +kernel
theorem dX12_serve_56 : decode cX12_serve 56 = .ok (.imul, 1) := by decide +kernel
theorem dX12_serve_57 : decode cX12_serve 57 = .ok (.iload_n 2, 1) := by decide +kernel
theorem dX12_serve_58 : decode cX12_serve 58 = .ok (.iadd, 1) := by decide +kernel
theorem dX12_serve_59 : decode cX12_serve 59 = .ok (.iload_n 3, 1) := by decide +kernel
theorem dX12_serve_60 : decode cX12_serve 60 = .ok (.bastore, 1) := by decide +kernel
theorem dX12_serve_61 : decode cX12_serve 61 = .ok (.iload 4, 2) := by decide +kernel
theorem dX12_serve_63 : decode cX12_serve 63 = .ok (.iload_n 3, 1) := by decide +kernel
theorem dX12_serve_64 : decode cX12_serve 64 = .ok (.if_icmp .eq 7, 3) := by decide +kernel
theorem dX12_serve_67 : decode cX12_serve 67 = .ok (.iconst 1, 1) := by decide +kernel
theorem dX12_serve_68 : decode cX12_serve 68 = .ok (.goto 4, 3) := by decide +kernel
theorem dX12_serve_71 : decode cX12_serve 71 = .ok (.iconst 0, 1) := by decide +kernel
theorem dX12_serve_72 : decode cX12_serve 72 = .ok (.ireturn, 1) := by decide +kernel
theorem dX12_hint_0 : decode cX12_hint 0 = .ok (.aload_n 0, 1) := by decide +kernel
theorem dX12_hint_1 : decode cX12_hint 1 = .ok (.iconst 0, 1) := by decide +kernel
theorem dX12_hint_2 : decode cX12_hint 2 = .ok (.putfield 149, 3) := by decide +kernel
theorem dX12_hint_5 : decode cX12_hint 5 = .ok (.aload_n 0, 1) := by decide +kernel
theorem dX12_hint_6 : decode cX12_hint 6 = .ok (.getfield 226, 3) := by decide +kernel
theorem dX12_hint_9 : decode cX12_hint 9 = .ok (.iconst 4, 1) := by decide +kernel
theorem dX12_hint_10 : decode cX12_hint 10 = .ok (.if_icmp .ne 5, 3) := by decide +kernel
theorem dX12_hint_13 : decode cX12_hint 13 = .ok (.iconst (-1), 1) := by decide +kernel
theorem dX12_hint_14 : decode cX12_hint 14 = .ok (.ireturn, 1) := by decide +kernel
theorem dX12_hint_15 : decode cX12_hint 15 = .ok (.aload_n 0, 1) := by decide +kernel
theorem dX12_hint_16 : decode cX12_hint 16 = .ok (.getfield 67, 3) := by decide +kernel
theorem dX12_hint_19 : decode cX12_hint 19 = .ok (.aload_n 0, 1) := by decide +kernel
theorem dX12_hint_20 : decode cX12_hint 20 = .ok (.getfield 226, 3) := by decide +kernel
theorem dX12_hint_23 : decode cX12_hint 23 = .ok (.iload_n 1, 1) := by decide +kernel
theorem dX12_hint_24 : decode cX12_hint 24 = .ok (.iastore, 1) := by decide +kernel
theorem dX12_hint_25 : decode cX12_hint 25 = .ok (.aload_n 0, 1) := by decide +kernel
theorem dX12_hint_26 : decode cX12_hint 26 = .ok (.dup, 1) := by decide +kernel
theorem dX12_hint_27 : decode cX12_hint 27 = .ok (.getfield 226, 3) := by decide +kernel
theorem dX12_hint_30 : decode cX12_hint 30 = .ok (.iconst 1, 1) := by decide +kernel
theorem dX12_hint_31 : decode cX12_hint 31 = .ok (.iadd, 1) := by decide +kernel
theorem dX12_hint_32 : decode cX12_hint 32 = .ok (.putfield 226, 3) := by decide +kernel
theorem dX12_hint_35 : decode cX12_hint 35 = .ok (.aload_n 0, 1) := by decide +kernel
theorem dX12_hint_36 : decode cX12_hint 36 = .ok (.getfield 226, 3) := by decide +kernel
theorem dX12_hint_39 : decode cX12_hint 39 = .ok (.ireturn, 1) := by decide +kernel
theorem dX12_put_0 : decode cX12_put 0 = .ok (.aload_n 0, 1) := by decide +kernel
theorem dX12_put_1 : decode cX12_put 1 = .ok (.getfield 229, 3) := by decide +kernel
theorem dX12_put_4 : decode cX12_put 4 = .ok (.sipush 1000, 3) := by decide +kernel
theorem dX12_put_7 : decode cX12_put 7 = .ok (.if_icmp .ge 14, 3) := by decide +kernel
theorem dX12_put_10 : decode cX12_put 10 = .ok (.aload_n 0, 1) := by decide +kernel
theorem dX12_put_11 : decode cX12_put 11 = .ok (.getfield 70, 3) := by decide +kernel
theorem dX12_put_14 : decode cX12_put 14 = .ok (.aload_n 0, 1) := by decide +kernel
theorem dX12_put_15 : decode cX12_put 15 = .ok (.getfield 229, 3) := by decide +kernel
theorem dX12_put_18 : decode cX12_put 18 = .ok (.iload_n 1, 1) := by decide +kernel
theorem dX12_put_19 : decode cX12_put 19 = .ok (.i2b, 1) := by decide +kernel
theorem dX12_put_20 : decode cX12_put 20 = .ok (.bastore, 1) := by decide +kernel
theorem dX12_put_21 : decode cX12_put 21 = .ok (.aload_n 0, 1) := by decide +kernel
theorem dX12_put_22 : decode cX12_put 22 = .ok (.dup, 1) := by decide +kernel
theorem dX12_put_23 : decode cX12_put 23 = .ok (.getfield 229, 3) := by decide +kernel
theorem dX12_put_26 : decode cX12_put 26 = .ok (.iconst 1, 1) := by decide +kernel
theorem dX12_put_27 : decode cX12_put 27 = .ok (.iadd, 1) := by decide +kernel
theorem dX12_put_28 : decode cX12_put 28 = .ok (.putfield 229, 3) := by decide +kernel
theorem dX12_put_31 : decode cX12_put 31 = .ok (.return_, 1) := by decide +kernel
theorem dX12_put2_0 : decode cX12_put2 0 = .ok (.aload_n 0, 1) := by decide +kernel
theorem dX12_put2_1 : decode cX12_put2 1 = .ok (.iload_n 1, 1) := by decide +kernel
theorem dX12_put2_2 : decode cX12_put2 2 = .ok (.bipush 8, 2) := by decide +kernel
theorem dX12_put2_4 : decode cX12_put2 4 = .ok (.ishr, 1) := by decide +kernel
theorem dX12_put2_5 : decode cX12_put2 5 = .ok (.invokevirtual 232, 3) := by decide +kernel
theorem dX12_put2_8 : decode cX12_put2 8 = .ok (.aload_n 0, 1) := by decide +kernel
theorem dX12_put2_9 : decode cX12_put2 9 = .ok (.iload_n 1, 1) := by decide +kernel
theorem dX12_put2_10 : decode cX12_put2 10 = .ok (.invokevirtual 232, 3) := by decide +kernel
theorem dX12_put2_13 : decode cX12_put2 13 = .ok (.return_, 1) := by decide +kernel
theorem dX12_put4_0 : decode cX12_put4 0 = .ok (.aload_n 0, 1) := by decide +kernel
theorem dX12_put4_1 : decode cX12_put4 1 = .ok (.iload_n 1, 1) := by decide +kernel
theorem dX12_put4_2 : decode cX12_put4 2 = .ok (.bipush 16, 2) := by decide +kernel
theorem dX12_put4_4 : decode cX12_put4 4 = .ok (.ishr, 1) := by decide +kernel
theorem dX12_put4_5 : decode cX12_put4 5 = .ok (.invokevirtual 236, 3) := by decide +kernel
theorem dX12_put4_8 : decode cX12_put4 8 = .ok (.aload_n 0, 1) := by decide +kernel
theorem dX12_put4_9 : decode cX12_put4 9 = .ok (.iload_n 1, 1) := by decide +kernel
theorem dX12_put4_10 : decode cX12_put4 10 = .ok (.invokevirtual 236, 3) := by decide +kernel
theorem dX12_put4_13 : decode cX12_put4 13 = .ok (.return_, 1) := by decide +kernel
theorem dX12_putName_0 : decode cX12_putName 0 = .ok (.iload_n 1, 1) := by decide +kernel
theorem dX12_putName_1 : decode cX12_putName 1 = .ok (.istore_n 2, 1) := by decide +kernel
theorem dX12_putName_2 : decode cX12_putName 2 = .ok (.iload_n 2, 1) := by decide +kernel
theorem dX12_putName_3 : decode cX12_putName 3 = .ok (.ifCond .le 76, 3) := by decide +kernel
theorem dX12_putName_6 : decode cX12_putName 6 = .ok (.aload_n 0, 1) := by decide +kernel
theorem dX12_putName_7 : decode cX12_putName 7 = .ok (.getfield 73, 3) := by decide +kernel
theorem dX12_putName_10 : decode cX12_putName 10 = .ok (.iload_n 2, 1) := by decide +kernel
theorem dX12_putName_11 : decode cX12_putName 11 = .ok (.iaload, 1) := by decide +kernel
theorem dX12_putName_12 : decode cX12_putName 12 = .ok (.iconst (-1), 1) := by decide +kernel
theorem dX12_putName_13 : decode cX12_putName 13 = .ok (.if_icmp .ne 66, 3) := by decide +kernel
theorem dX12_putName_16 : decode cX12_putName 16 = .ok (.aload_n 0, 1) := by decide +kernel
theorem dX12_putName_17 : decode cX12_putName 17 = .ok (.getfield 73, 3) := by decide +kernel
theorem dX12_putName_20 : decode cX12_putName 20 = .ok (.iload_n 2, 1) := by decide +kernel
theorem dX12_putName_21 : decode cX12_putName 21 = .ok (.aload_n 0, 1) := by decide +kernel
theorem dX12_putName_22 : decode cX12_putName 22 = .ok (.getfield 229, 3) := by decide +kernel
theorem dX12_putName_25 : decode cX12_putName 25 = .ok (.iastore, 1) := by decide +kernel
theorem dX12_putName_26 : decode cX12_putName 26 = .ok (.aload_n 0, 1) := by decide +kernel
theorem dX12_putName_27 : decode cX12_putName 27 = .ok (.aload_n 0, 1) := by decide +kernel
theorem dX12_putName_28 : decode cX12_putName 28 = .ok (.getfield 17, 3) := by decide +kernel
theorem dX12_putName_31 : decode cX12_putName 31 = .ok (.iload_n 2, 1) := by decide +kernel
theorem dX12_putName_32 : decode cX12_putName 32 = .ok (.iaload, 1) := by decide +kernel
theorem dX12_putName_33 : decode cX12_putName 33 = .ok (.invokevirtual 232, 3) := by decide +kernel
theorem dX12_putName_36 : decode cX12_putName 36 = .ok (.iconst 0, 1) := by decide +kernel
theorem dX12_putName_37 : decode cX12_putName 37 = .ok (.istore_n 3, 1) := by decide +kernel
theorem dX12_putName_38 : decode cX12_putName 38 = .ok (.iload_n 3, 1) := by decide +kernel
theorem dX12_putName_39 : decode cX12_putName 39 = .ok (.aload_n 0, 1) := by decide +kernel
theorem dX12_putName_40 : decode cX12_putName 40 = .ok (.getfield 17, 3) := by decide +kernel
theorem dX12_putName_43 : decode cX12_putName 43 = .ok (.iload_n 2, 1) := by decide +kernel
theorem dX12_putName_44 : decode cX12_putName 44 = .ok (.iaload, 1) := by decide +kernel
theorem dX12_putName_45 : decode cX12_putName 45 = .ok (.if_icmp .ge 24, 3) := by decide +kernel
theorem dX12_putName_48 : decode cX12_putName 48 = .ok (.aload_n 0, 1) := by decide +kernel
theorem dX12_putName_49 : decode cX12_putName 49 = .ok (.aload_n 0, 1) := by decide +kernel
theorem dX12_putName_50 : decode cX12_putName 50 = .ok (.getfield 13, 3) := by decide +kernel
theorem dX12_putName_53 : decode cX12_putName 53 = .ok (.bipush 10, 2) := by decide +kernel
theorem dX12_putName_55 : decode cX12_putName 55 = .ok (.iload_n 2, 1) := by decide +kernel
theorem dX12_putName_56 : decode cX12_putName 56 = .ok (.imul, 1) := by decide +kernel
theorem dX12_putName_57 : decode cX12_putName 57 = .ok (.iload_n 3, 1) := by decide +kernel
theorem dX12_putName_58 : decode cX12_putName 58 = .ok (.iadd, 1) := by decide +kernel
theorem dX12_putName_59 : decode cX12_putName 59 = .ok (.baload, 1) := by decide +kernel
theorem dX12_putName_60 : decode cX12_putName 60 = .ok (.invokevirtual 232, 3) := by decide +kernel
theorem dX12_putName_63 : decode cX12_putName 63 = .ok (.iinc 3 1, 3) := by decide +kernel
theorem dX12_putName_66 : decode cX12_putName 66 = .ok (.goto (-28), 3) := by decide +kernel
theorem dX12_putName_69 : decode cX12_putName 69 = .ok (.aload_n 0, 1) := by decide +kernel
theorem dX12_putName_70 : decode cX12_putName 70 = .ok (.getfield 9, 3) := by decide +kernel
theorem dX12_putName_73 : decode cX12_putName 73 = .ok (.iload_n 2, 1) := by decide +kernel
theorem dX12_putName_74 : decode cX12_putName 74 = .ok (.iaload, 1) := by decide +kernel
theorem dX12_putName_75 : decode cX12_putName 75 = .ok (.istore_n 2, 1) := by decide +kernel
theorem dX12_putName_76 : decode cX12_putName 76 = .ok (.goto (-74), 3) := by decide +kernel
theorem dX12_putName_79 : decode cX12_putName 79 = .ok (.iload_n 2, 1) := by decide +kernel
theorem dX12_putName_80 : decode cX12_putName 80 = .ok (.ifCond .ne 11, 3) := by decide +kernel
theorem dX12_putName_83 : decode cX12_putName 83 = .ok (.aload_n 0, 1) := by decide +kernel
theorem dX12_putName_84 : decode cX12_putName 84 = .ok (.iconst 0, 1) := by decide +kernel
theorem dX12_putName_85 : decode cX12_putName 85 = .ok (.invokevirtual 232, 3) := by decide +kernel
theorem dX12_putName_88 : decode cX12_putName 88 = .ok (.goto 16, 3) := by decide +kernel
theorem dX12_putName_91 : decode cX12_putName 91 = .ok (.aload_n 0, 1) := by decide +kernel
theorem dX12_putName_92 : decode cX12_putName 92 = .ok (.ldc 239, 2) := by decide +kernel
theorem dX12_putName_94 : decode cX12_putName 94 = .ok (.aload_n 0, 1) := by decide +kernel
theorem dX12_putName_95 : decode cX12_putName 95 = .ok (.getfield 73, 3) := by decide +kernel
theorem dX12_putName_98 : decode cX12_putName 98 = .ok (.iload_n 2, 1) := by decide +kernel
theorem dX12_putName_99 : decode cX12_putName 99 = .ok (.iaload, 1) := by decide +kernel
theorem dX12_putName_100 : decode cX12_putName 100 = .ok (.ior, 1) := by decide +kernel
theorem dX12_putName_101 : decode cX12_putName 101 = .ok (.invokevirtual 236, 3) := by decide +kernel
theorem dX12_putName_104 : decode cX12_putName 104 = .ok (.return_, 1) := by decide +kernel
theorem dX12_putHead_0 : decode cX12_putHead 0 = .ok (.aload_n 0, 1) := by decide +kernel
theorem dX12_putHead_1 : decode cX12_putHead 1 = .ok (.iload_n 1, 1) := by decide +kernel
theorem dX12_putHead_2 : decode cX12_putHead 2 = .ok (.invokevirtual 240, 3) := by decide +kernel
theorem dX12_putHead_5 : decode cX12_putHead 5 = .ok (.aload_n 0, 1) := by decide +kernel
theorem dX12_putHead_6 : decode cX12_putHead 6 = .ok (.iload_n 2, 1) := by decide +kernel
theorem dX12_putHead_7 : decode cX12_putHead 7 = .ok (.invokevirtual 236, 3) := by decide +kernel
theorem dX12_putHead_10 : decode cX12_putHead 10 = .ok (.aload_n 0, 1) := by decide +kernel
theorem dX12_putHead_11 : decode cX12_putHead 11 = .ok (.iconst 1, 1) := by decide +kernel
theorem dX12_putHead_12 : decode cX12_putHead 12 = .ok (.invokevirtual 236, 3) := by decide +kernel
theorem dX12_putHead_15 : decode cX12_putHead 15 = .ok (.aload_n 0, 1) := by decide +kernel
theorem dX12_putHead_16 : decode cX12_putHead 16 = .ok (.iload_n 3, 1) := by decide +kernel
theorem dX12_putHead_17 : decode cX12_putHead 17 = .ok (.invokevirtual 243, 3) := by decide +kernel
theorem dX12_putHead_20 : decode cX12_putHead 20 = .ok (.return_, 1) := by decide +kernel
theorem dX12_putRecord_0 : decode cX12_putRecord 0 = .ok (.aload_n 0, 1) := by decide +kernel
theorem dX12_putRecord_1 : decode cX12_putRecord 1 = .ok (.aload_n 0, 1) := by decide +kernel
theorem dX12_putRecord_2 : decode cX12_putRecord 2 = .ok (.getfield 48, 3) := by decide +kernel
theorem dX12_putRecord_5 : decode cX12_putRecord 5 = .ok (.iload_n 1, 1) := by decide +kernel
theorem dX12_putRecord_6 : decode cX12_putRecord 6 = .ok (.iaload, 1) := by decide +kernel
theorem dX12_putRecord_7 : decode cX12_putRecord 7 = .ok (.aload_n 0, 1) := by decide +kernel
theorem dX12_putRecord_8 : decode cX12_putRecord 8 = .ok (.getfield 51, 3) := by decide +kernel
theorem dX12_putRecord_11 : decode cX12_putRecord 11 = .ok (.iload_n 1, 1) := by decide +kernel
theorem dX12_putRecord_12 : decode cX12_putRecord 12 = .ok (.iaload, 1) := by decide +kernel
theorem dX12_putRecord_13 : decode cX12_putRecord 13 = .ok (.aload_n 0, 1) := by decide +kernel
theorem dX12_putRecord_14 : decode cX12_putRecord 14 = .ok (.getfield 57, 3) := by decide +kernel
theorem dX12_putRecord_17 : decode cX12_putRecord 17 = .ok (.iload_n 1, 1) := by decide +kernel
theorem dX12_putRecord_18 : decode cX12_putRecord 18 = .ok (.iaload, 1) := by decide +kernel
theorem dX12_putRecord_19 : decode cX12_putRecord 19 = .ok (.invokevirtual 246, 3) := by decide +kernel
theorem dX12_putRecord_22 : decode cX12_putRecord 22 = .ok (.aload_n 0, 1) := by decide +kernel
theorem dX12_putRecord_23 : decode cX12_putRecord 23 = .ok (.getfield 229, 3) := by decide +kernel
theorem dX12_putRecord_26 : decode cX12_putRecord 26 = .ok (.istore_n 2, 1) := by decide +kernel
theorem dX12_putRecord_27 : decode cX12_putRecord 27 = .ok (.aload_n 0, 1) := by decide +kernel
theorem dX12_putRecord_28 : decode cX12_putRecord 28 = .ok (.iconst 0, 1) := by decide +kernel
theorem dX12_putRecord_29 : decode cX12_putRecord 29 = .ok (.invokevirtual 236, 3) := by decide +kernel
theorem dX12_putRecord_32 : decode cX12_putRecord 32 = .ok (.aload_n 0, 1) := by decide +kernel
theorem dX12_putRecord_33 : decode cX12_putRecord 33 = .ok (.getfield 51, 3) := by decide +kernel
theorem dX12_putRecord_36 : decode cX12_putRecord 36 = .ok (.iload_n 1, 1) := by decide +kernel
theorem dX12_putRecord_37 : decode cX12_putRecord 37 = .ok (.iaload, 1) := by decide +kernel
theorem dX12_putRecord_38 : decode cX12_putRecord 38 = .ok (.iconst 2, 1) := by decide +kernel
theorem dX12_putRecord_39 : decode cX12_putRecord 39 = .ok (.if_icmp .eq 13, 3) := by decide +kernel
theorem dX12_putRecord_42 : decode cX12_putRecord 42 = .ok (.aload_n 0, 1) := by decide +kernel
theorem dX12_putRecord_43 : decode cX12_putRecord 43 = .ok (.getfield 51, 3) := by decide +kernel
theorem dX12_putRecord_46 : decode cX12_putRecord 46 = .ok (.iload_n 1, 1) := by decide +kernel
theorem dX12_putRecord_47 : decode cX12_putRecord 47 = .ok (.iaload, 1) := by decide +kernel
theorem dX12_putRecord_48 : decode cX12_putRecord 48 = .ok (.iconst 5, 1) := by decide +kernel
theorem dX12_putRecord_49 : decode cX12_putRecord 49 = .ok (.if_icmp .ne 16, 3) := by decide +kernel
theorem dX12_putRecord_52 : decode cX12_putRecord 52 = .ok (.aload_n 0, 1) := by decide +kernel
theorem dX12_putRecord_53 : decode cX12_putRecord 53 = .ok (.aload_n 0, 1) := by decide +kernel
theorem dX12_putRecord_54 : decode cX12_putRecord 54 = .ok (.getfield 54, 3) := by decide +kernel
theorem dX12_putRecord_57 : decode cX12_putRecord 57 = .ok (.iload_n 1, 1) := by decide +kernel
theorem dX12_putRecord_58 : decode cX12_putRecord 58 = .ok (.iaload, 1) := by decide +kernel
theorem dX12_putRecord_59 : decode cX12_putRecord 59 = .ok (.invokevirtual 240, 3) := by decide +kernel
theorem dX12_putRecord_62 : decode cX12_putRecord 62 = .ok (.goto 29, 3) := by decide +kernel
theorem dX12_putRecord_65 : decode cX12_putRecord 65 = .ok (.aload_n 0, 1) := by decide +kernel
theorem dX12_putRecord_66 : decode cX12_putRecord 66 = .ok (.getfield 51, 3) := by decide +kernel
theorem dX12_putRecord_69 : decode cX12_putRecord 69 = .ok (.iload_n 1, 1) := by decide +kernel
theorem dX12_putRecord_70 : decode cX12_putRecord 70 = .ok (.iaload, 1) := by decide +kernel
theorem dX12_putRecord_71 : decode cX12_putRecord 71 = .ok (.bipush 16, 2) := by decide +kernel
theorem dX12_putRecord_73 : decode cX12_putRecord 73 = .ok (.if_icmp .ne 8, 3) := by decide +kernel
theorem dX12_putRecord_76 : decode cX12_putRecord 76 = .ok (.aload_n 0, 1) := by decide +kernel
theorem dX12_putRecord_77 : decode cX12_putRecord 77 = .ok (.iconst 4, 1) := by decide +kernel
theorem dX12_putRecord_78 : decode cX12_putRecord 78 = .ok (.invokevirtual 232, 3) := by decide +kernel
theorem dX12_putRecord_81 : decode cX12_putRecord 81 = .ok (.aload_n 0, 1) := by decide +kernel
theorem dX12_putRecord_82 : decode cX12_putRecord 82 = .ok (.aload_n 0, 1) := by decide +kernel
theorem dX12_putRecord_83 : decode cX12_putRecord 83 = .ok (.getfield 54, 3) := by decide +kernel
theorem dX12_putRecord_86 : decode cX12_putRecord 86 = .ok (.iload_n 1, 1) := by decide +kernel
theorem dX12_putRecord_87 : decode cX12_putRecord 87 = .ok (.iaload, 1) := by decide +kernel
theorem dX12_putRecord_88 : decode cX12_putRecord 88 = .ok (.invokevirtual 243, 3) := by decide +kernel
theorem dX12_putRecord_91 : decode cX12_putRecord 91 = .ok (.aload_n 0, 1) := by decide +kernel
theorem dX12_putRecord_92 : decode cX12_putRecord 92 = .ok (.getfield 229, 3) := by decide +kernel
theorem dX12_putRecord_95 : decode cX12_putRecord 95 = .ok (.iload_n 2, 1) := by decide +kernel
theorem dX12_putRecord_96 : decode cX12_putRecord 96 = .ok (.isub, 1) := by decide +kernel
theorem dX12_putRecord_97 : decode cX12_putRecord 97 = .ok (.iconst 2, 1) := by decide +kernel
theorem dX12_putRecord_98 : decode cX12_putRecord 98 = .ok (.isub, 1) := by decide +kernel
theorem dX12_putRecord_99 : decode cX12_putRecord 99 = .ok (.istore_n 3, 1) := by decide +kernel
theorem dX12_putRecord_100 : decode cX12_putRecord 100 = .ok (.iload_n 2, 1) := by decide +kernel
theorem dX12_putRecord_101 : decode cX12_putRecord 101 = .ok (.iconst 1, 1) := by decide +kernel
theorem dX12_putRecord_102 : decode cX12_putRecord 102 = .ok (.iadd, 1) := by decide +kernel
theorem dX12_putRecord_103 : decode cX12_putRecord 103 = .ok (.sipush 1000, 3) := by decide +kernel
theorem dX12_putRecord_106 : decode cX12_putRecord 106 = .ok (.if_icmp .ge 13, 3) := by decide +kernel
theorem dX12_putRecord_109 : decode cX12_putRecord 109 = .ok (.aload_n 0, 1) := by decide +kernel
theorem dX12_putRecord_110 : decode cX12_putRecord 110 = .ok (.getfield 70, 3) := by decide +kernel
theorem dX12_putRecord_113 : decode cX12_putRecord 113 = .ok (.iload_n 2, 1) := by decide +kernel
theorem dX12_putRecord_114 : decode cX12_putRecord 114 = .ok (.iconst 1, 1) := by decide +kernel
theorem dX12_putRecord_115 : decode cX12_putRecord 115 = .ok (.iadd, 1) := by decide +kernel
theorem dX12_putRecord_116 : decode cX12_putRecord 116 = .ok (.iload_n 3, 1) := by decide +kernel
theorem dX12_putRecord_117 : decode cX12_putRecord 117 = .ok (.i2b, 1) := by decide +kernel
theorem dX12_putRecord_118 : decode cX12_putRecord 118 = .ok (.bastore, 1) := by decide +kernel
theorem dX12_putRecord_119 : decode cX12_putRecord 119 = .ok (.return_, 1) := by decide +kernel
theorem dX12_putSoa_0 : decode cX12_putSoa 0 = .ok (.aload_n 0, 1) := by decide +kernel
theorem dX12_putSoa_1 : decode cX12_putSoa 1 = .ok (.aload_n 0, 1) := by decide +kernel
theorem dX12_putSoa_2 : decode cX12_putSoa 2 = .ok (.getfield 39, 3) := by decide +kernel
theorem dX12_putSoa_5 : decode cX12_putSoa 5 = .ok (.iload_n 1, 1) := by decide +kernel
theorem dX12_putSoa_6 : decode cX12_putSoa 6 = .ok (.iaload, 1) := by decide +kernel
theorem dX12_putSoa_7 : decode cX12_putSoa 7 = .ok (.bipush 6, 2) := by decide +kernel
theorem dX12_putSoa_9 : decode cX12_putSoa 9 = .ok (.aload_n 0, 1) := by decide +kernel
theorem dX12_putSoa_10 : decode cX12_putSoa 10 = .ok (.getfield 42, 3) := by decide +kernel
theorem dX12_putSoa_13 : decode cX12_putSoa 13 = .ok (.iload_n 1, 1) := by decide +kernel
theorem dX12_putSoa_14 : decode cX12_putSoa 14 = .ok (.iaload, 1) := by decide +kernel
theorem dX12_putSoa_15 : decode cX12_putSoa 15 = .ok (.invokevirtual 246, 3) := by decide +kernel
theorem dX12_putSoa_18 : decode cX12_putSoa 18 = .ok (.aload_n 0, 1) := by decide +kernel
theorem dX12_putSoa_19 : decode cX12_putSoa 19 = .ok (.bipush 22, 2) := by decide +kernel
theorem dX12_putSoa_21 : decode cX12_putSoa 21 = .ok (.invokevirtual 236, 3) := by decide +kernel
theorem dX12_putSoa_24 : decode cX12_putSoa 24 = .ok (.aload_n 0, 1) := by decide +kernel
theorem dX12_putSoa_25 : decode cX12_putSoa 25 = .ok (.iconst 0, 1) := by decide +kernel
theorem dX12_putSoa_26 : decode cX12_putSoa 26 = .ok (.invokevirtual 236, 3) := by decide +kernel
theorem dX12_putSoa_29 : decode cX12_putSoa 29 = .ok (.aload_n 0, 1) := by decide +kernel
theorem dX12_putSoa_30 : decode cX12_putSoa 30 = .ok (.iconst 1, 1) := by decide +kernel
theorem dX12_putSoa_31 : decode cX12_putSoa 31 = .ok (.invokevirtual 243, 3) := by decide +kernel
theorem dX12_putSoa_34 : decode cX12_putSoa 34 = .ok (.aload_n 0, 1) := by decide +kernel
theorem dX12_putSoa_35 : decode cX12_putSoa 35 = .ok (.iconst 0, 1) := by decide +kernel
theorem dX12_putSoa_36 : decode cX12_putSoa 36 = .ok (.invokevirtual 243, 3) := by decide +kernel
theorem dX12_putSoa_39 : decode cX12_putSoa 39 = .ok (.aload_n 0, 1) := by decide +kernel
theorem dX12_putSoa_40 : decode cX12_putSoa 40 = .ok (.iconst 0, 1) := by decide +kernel
theorem dX12_putSoa_41 : decode cX12_putSoa 41 = .ok (.invokevirtual 243, 3) := by decide +kernel
theorem dX12_putSoa_44 : decode cX12_putSoa 44 = .ok (.aload_n 0, 1) := by decide +kernel
theorem dX12_putSoa_45 : decode cX12_putSoa 45 = .ok (.iconst 0, 1) := by decide +kernel
theorem dX12_putSoa_46 : decode cX12_putSoa 46 = .ok (.invokevirtual 243, 3) := by decide +kernel
theorem dX12_putSoa_49 : decode cX12_putSoa 49 = .ok (.aload_n 0, 1) := by decide +kernel
theorem dX12_putSoa_50 : decode cX12_putSoa 50 = .ok (.aload_n 0, 1) := by decide +kernel
theorem dX12_putSoa_51 : decode cX12_putSoa 51 = .ok (.getfield 42, 3) := by decide +kernel
theorem dX12_putSoa_54 : decode cX12_putSoa 54 = .ok (.iload_n 1, 1) := by decide +kernel
theorem dX12_putSoa_55 : decode cX12_putSoa 55 = .ok (.iaload, 1) := by decide +kernel
theorem dX12_putSoa_56 : decode cX12_putSoa 56 = .ok (.invokevirtual 243, 3) := by decide +kernel
theorem dX12_putSoa_59 : decode cX12_putSoa 59 = .ok (.return_, 1) := by decide +kernel
theorem dX12_zoneFor_0 : decode cX12_zoneFor 0 = .ok (.iconst (-1), 1) := by decide +kernel
theorem dX12_zoneFor_1 : decode cX12_zoneFor 1 = .ok (.istore_n 3, 1) := by decide +kernel
theorem dX12_zoneFor_2 : decode cX12_zoneFor 2 = .ok (.iconst 0, 1) := by decide +kernel
theorem dX12_zoneFor_3 : decode cX12_zoneFor 3 = .ok (.istore 4, 2) := by decide +kernel
theorem dX12_zoneFor_5 : decode cX12_zoneFor 5 = .ok (.iload 4, 2) := by decide +kernel
theorem dX12_zoneFor_7 : decode cX12_zoneFor 7 = .ok (.aload_n 0, 1) := by decide +kernel
theorem dX12_zoneFor_8 : decode cX12_zoneFor 8 = .ok (.getfield 194, 3) := by decide +kernel
theorem dX12_zoneFor_11 : decode cX12_zoneFor 11 = .ok (.if_icmp .ge 72, 3) := by decide +kernel
theorem dX12_zoneFor_14 : decode cX12_zoneFor 14 = .ok (.aload_n 0, 1) := by decide +kernel
theorem dX12_zoneFor_15 : decode cX12_zoneFor 15 = .ok (.getfield 63, 3) := by decide +kernel
theorem dX12_zoneFor_18 : decode cX12_zoneFor 18 = .ok (.bipush 12, 2) := by decide +kernel
theorem dX12_zoneFor_20 : decode cX12_zoneFor 20 = .ok (.iload_n 1, 1) := by decide +kernel
theorem dX12_zoneFor_21 : decode cX12_zoneFor 21 = .ok (.imul, 1) := by decide +kernel
theorem dX12_zoneFor_22 : decode cX12_zoneFor 22 = .ok (.iload 4, 2) := by decide +kernel
theorem dX12_zoneFor_24 : decode cX12_zoneFor 24 = .ok (.iadd, 1) := by decide +kernel
theorem dX12_zoneFor_25 : decode cX12_zoneFor 25 = .ok (.baload, 1) := by decide +kernel
theorem dX12_zoneFor_26 : decode cX12_zoneFor 26 = .ok (.ifCond .eq 51, 3) := by decide +kernel
theorem dX12_zoneFor_29 : decode cX12_zoneFor 29 = .ok (.aload_n 0, 1) := by decide +kernel
theorem dX12_zoneFor_30 : decode cX12_zoneFor 30 = .ok (.iload_n 2, 1) := by decide +kernel
theorem dX12_zoneFor_31 : decode cX12_zoneFor 31 = .ok (.aload_n 0, 1) := by decide +kernel
theorem dX12_zoneFor_32 : decode cX12_zoneFor 32 = .ok (.getfield 39, 3) := by decide +kernel
theorem dX12_zoneFor_35 : decode cX12_zoneFor 35 = .ok (.iload 4, 2) := by decide +kernel
theorem dX12_zoneFor_37 : decode cX12_zoneFor 37 = .ok (.iaload, 1) := by decide +kernel
theorem dX12_zoneFor_38 : decode cX12_zoneFor 38 = .ok (.invokevirtual 210, 3) := by decide +kernel
theorem dX12_zoneFor_41 : decode cX12_zoneFor 41 = .ok (.ifCond .eq 36, 3) := by decide +kernel
theorem dX12_zoneFor_44 : decode cX12_zoneFor 44 = .ok (.iload_n 3, 1) := by decide +kernel
theorem dX12_zoneFor_45 : decode cX12_zoneFor 45 = .ok (.ifCond .lt 29, 3) := by decide +kernel
theorem dX12_zoneFor_48 : decode cX12_zoneFor 48 = .ok (.aload_n 0, 1) := by decide +kernel
theorem dX12_zoneFor_49 : decode cX12_zoneFor 49 = .ok (.getfield 20, 3) := by decide +kernel
theorem dX12_zoneFor_52 : decode cX12_zoneFor 52 = .ok (.aload_n 0, 1) := by decide +kernel
theorem dX12_zoneFor_53 : decode cX12_zoneFor 53 = .ok (.getfield 39, 3) := by decide +kernel
theorem dX12_zoneFor_56 : decode cX12_zoneFor 56 = .ok (.iload 4, 2) := by decide +kernel
theorem dX12_zoneFor_58 : decode cX12_zoneFor 58 = .ok (.iaload, 1) := by decide +kernel
theorem dX12_zoneFor_59 : decode cX12_zoneFor 59 = .ok (.iaload, 1) := by decide +kernel
theorem dX12_zoneFor_60 : decode cX12_zoneFor 60 = .ok (.aload_n 0, 1) := by decide +kernel
theorem dX12_zoneFor_61 : decode cX12_zoneFor 61 = .ok (.getfield 20, 3) := by decide +kernel
theorem dX12_zoneFor_64 : decode cX12_zoneFor 64 = .ok (.aload_n 0, 1) := by decide +kernel
theorem dX12_zoneFor_65 : decode cX12_zoneFor 65 = .ok (.getfield 39, 3) := by decide +kernel
theorem dX12_zoneFor_68 : decode cX12_zoneFor 68 = .ok (.iload_n 3, 1) := by decide +kernel
theorem dX12_zoneFor_69 : decode cX12_zoneFor 69 = .ok (.iaload, 1) := by decide +kernel
theorem dX12_zoneFor_70 : decode cX12_zoneFor 70 = .ok (.iaload, 1) := by decide +kernel
theorem dX12_zoneFor_71 : decode cX12_zoneFor 71 = .ok (.if_icmp .le 6, 3) := by decide +kernel
theorem dX12_zoneFor_74 : decode cX12_zoneFor 74 = .ok (.iload 4, 2) := by decide +kernel
theorem dX12_zoneFor_76 : decode cX12_zoneFor 76 = .ok (.istore_n 3, 1) := by decide +kernel
theorem dX12_zoneFor_77 : decode cX12_zoneFor 77 = .ok (.iinc 4 1, 3) := by decide +kernel
theorem dX12_zoneFor_80 : decode cX12_zoneFor 80 = .ok (.goto (-75), 3) := by decide +kernel
theorem dX12_zoneFor_83 : decode cX12_zoneFor 83 = .ok (.iload_n 3, 1) := by decide +kernel
theorem dX12_zoneFor_84 : decode cX12_zoneFor 84 = .ok (.ireturn, 1) := by decide +kernel
theorem dX12_cutOf_0 : decode cX12_cutOf 0 = .ok (.iconst (-1), 1) := by decide +kernel
theorem dX12_cutOf_1 : decode cX12_cutOf 1 = .ok (.istore_n 3, 1) := by decide +kernel
theorem dX12_cutOf_2 : decode cX12_cutOf 2 = .ok (.iconst 0, 1) := by decide +kernel
theorem dX12_cutOf_3 : decode cX12_cutOf 3 = .ok (.istore 4, 2) := by decide +kernel
theorem dX12_cutOf_5 : decode cX12_cutOf 5 = .ok (.iload 4, 2) := by decide +kernel
theorem dX12_cutOf_7 : decode cX12_cutOf 7 = .ok (.aload_n 0, 1) := by decide +kernel
theorem dX12_cutOf_8 : decode cX12_cutOf 8 = .ok (.getfield 204, 3) := by decide +kernel
theorem dX12_cutOf_11 : decode cX12_cutOf 11 = .ok (.if_icmp .ge 98, 3) := by decide +kernel
theorem dX12_cutOf_14 : decode cX12_cutOf 14 = .ok (.aload_n 0, 1) := by decide +kernel
theorem dX12_cutOf_15 : decode cX12_cutOf 15 = .ok (.getfield 45, 3) := by decide +kernel
theorem dX12_cutOf_18 : decode cX12_cutOf 18 = .ok (.iload 4, 2) := by decide +kernel
theorem dX12_cutOf_20 : decode cX12_cutOf 20 = .ok (.iaload, 1) := by decide +kernel
theorem dX12_cutOf_21 : decode cX12_cutOf 21 = .ok (.iload_n 1, 1) := by decide +kernel
theorem dX12_cutOf_22 : decode cX12_cutOf 22 = .ok (.if_icmp .ne 81, 3) := by decide +kernel
theorem dX12_cutOf_25 : decode cX12_cutOf 25 = .ok (.aload_n 0, 1) := by decide +kernel
theorem dX12_cutOf_26 : decode cX12_cutOf 26 = .ok (.getfield 51, 3) := by decide +kernel
theorem dX12_cutOf_29 : decode cX12_cutOf 29 = .ok (.iload 4, 2) := by decide +kernel
theorem dX12_cutOf_31 : decode cX12_cutOf 31 = .ok (.iaload, 1) := by decide +kernel
theorem dX12_cutOf_32 : decode cX12_cutOf 32 = .ok (.iconst 2, 1) := by decide +kernel
theorem dX12_cutOf_33 : decode cX12_cutOf 33 = .ok (.if_icmp .ne 70, 3) := by decide +kernel
theorem dX12_cutOf_36 : decode cX12_cutOf 36 = .ok (.aload_n 0, 1) := by decide +kernel
theorem dX12_cutOf_37 : decode cX12_cutOf 37 = .ok (.getfield 48, 3) := by decide +kernel
theorem dX12_cutOf_40 : decode cX12_cutOf 40 = .ok (.iload 4, 2) := by decide +kernel
theorem dX12_cutOf_42 : decode cX12_cutOf 42 = .ok (.iaload, 1) := by decide +kernel
theorem dX12_cutOf_43 : decode cX12_cutOf 43 = .ok (.aload_n 0, 1) := by decide +kernel
theorem dX12_cutOf_44 : decode cX12_cutOf 44 = .ok (.getfield 39, 3) := by decide +kernel
theorem dX12_cutOf_47 : decode cX12_cutOf 47 = .ok (.iload_n 1, 1) := by decide +kernel
theorem dX12_cutOf_48 : decode cX12_cutOf 48 = .ok (.iaload, 1) := by decide +kernel
theorem dX12_cutOf_49 : decode cX12_cutOf 49 = .ok (.if_icmp .eq 54, 3) := by decide +kernel
theorem dX12_cutOf_52 : decode cX12_cutOf 52 = .ok (.aload_n 0, 1) := by decide +kernel
theorem dX12_cutOf_53 : decode cX12_cutOf 53 = .ok (.iload_n 2, 1) := by decide +kernel
theorem dX12_cutOf_54 : decode cX12_cutOf 54 = .ok (.aload_n 0, 1) := by decide +kernel
theorem dX12_cutOf_55 : decode cX12_cutOf 55 = .ok (.getfield 48, 3) := by decide +kernel
theorem dX12_cutOf_58 : decode cX12_cutOf 58 = .ok (.iload 4, 2) := by decide +kernel
theorem dX12_cutOf_60 : decode cX12_cutOf 60 = .ok (.iaload, 1) := by decide +kernel
theorem dX12_cutOf_61 : decode cX12_cutOf 61 = .ok (.invokevirtual 210, 3) := by decide +kernel
theorem dX12_cutOf_64 : decode cX12_cutOf 64 = .ok (.ifCond .ne 6, 3) := by decide +kernel
theorem dX12_cutOf_67 : decode cX12_cutOf 67 = .ok (.goto 36, 3) := by decide +kernel
theorem dX12_cutOf_70 : decode cX12_cutOf 70 = .ok (.iload_n 3, 1) := by decide +kernel
theorem dX12_cutOf_71 : decode cX12_cutOf 71 = .ok (.ifCond .lt 24, 3) := by decide +kernel
theorem dX12_cutOf_74 : decode cX12_cutOf 74 = .ok (.aload_n 0, 1) := by decide +kernel
theorem dX12_cutOf_75 : decode cX12_cutOf 75 = .ok (.getfield 20, 3) := by decide +kernel
theorem dX12_cutOf_78 : decode cX12_cutOf 78 = .ok (.aload_n 0, 1) := by decide +kernel
theorem dX12_cutOf_79 : decode cX12_cutOf 79 = .ok (.getfield 48, 3) := by decide +kernel
theorem dX12_cutOf_82 : decode cX12_cutOf 82 = .ok (.iload 4, 2) := by decide +kernel
theorem dX12_cutOf_84 : decode cX12_cutOf 84 = .ok (.iaload, 1) := by decide +kernel
theorem dX12_cutOf_85 : decode cX12_cutOf 85 = .ok (.iaload, 1) := by decide +kernel
theorem dX12_cutOf_86 : decode cX12_cutOf 86 = .ok (.aload_n 0, 1) := by decide +kernel
theorem dX12_cutOf_87 : decode cX12_cutOf 87 = .ok (.getfield 20, 3) := by decide +kernel
theorem dX12_cutOf_90 : decode cX12_cutOf 90 = .ok (.iload_n 3, 1) := by decide +kernel
theorem dX12_cutOf_91 : decode cX12_cutOf 91 = .ok (.iaload, 1) := by decide +kernel
theorem dX12_cutOf_92 : decode cX12_cutOf 92 = .ok (.if_icmp .ge 11, 3) := by decide +kernel
theorem dX12_cutOf_95 : decode cX12_cutOf 95 = .ok (.aload_n 0, 1) := by decide +kernel
theorem dX12_cutOf_96 : decode cX12_cutOf 96 = .ok (.getfield 48, 3) := by decide +kernel
theorem dX12_cutOf_99 : decode cX12_cutOf 99 = .ok (.iload 4, 2) := by decide +kernel
theorem dX12_cutOf_101 : decode cX12_cutOf 101 = .ok (.iaload, 1) := by decide +kernel
theorem dX12_cutOf_102 : decode cX12_cutOf 102 = .ok (.istore_n 3, 1) := by decide +kernel
theorem dX12_cutOf_103 : decode cX12_cutOf 103 = .ok (.iinc 4 1, 3) := by decide +kernel
theorem dX12_cutOf_106 : decode cX12_cutOf 106 = .ok (.goto (-101), 3) := by decide +kernel
theorem dX12_cutOf_109 : decode cX12_cutOf 109 = .ok (.iload_n 3, 1) := by decide +kernel
theorem dX12_cutOf_110 : decode cX12_cutOf 110 = .ok (.ireturn, 1) := by decide +kernel
theorem dX12_hasBelow_0 : decode cX12_hasBelow 0 = .ok (.aload_n 0, 1) := by decide +kernel
theorem dX12_hasBelow_1 : decode cX12_hasBelow 1 = .ok (.getfield 39, 3) := by decide +kernel
theorem dX12_hasBelow_4 : decode cX12_hasBelow 4 = .ok (.iload_n 1, 1) := by decide +kernel
theorem dX12_hasBelow_5 : decode cX12_hasBelow 5 = .ok (.iaload, 1) := by decide +kernel
theorem dX12_hasBelow_6 : decode cX12_hasBelow 6 = .ok (.iload_n 2, 1) := by decide +kernel
theorem dX12_hasBelow_7 : decode cX12_hasBelow 7 = .ok (.if_icmp .ne 7, 3) := by decide +kernel
theorem dX12_hasBelow_10 : decode cX12_hasBelow 10 = .ok (.iconst 1, 1) := by decide +kernel
theorem dX12_hasBelow_11 : decode cX12_hasBelow 11 = .ok (.goto 4, 3) := by decide +kernel
theorem dX12_hasBelow_14 : decode cX12_hasBelow 14 = .ok (.iconst 0, 1) := by decide +kernel
theorem dX12_hasBelow_15 : decode cX12_hasBelow 15 = .ok (.istore_n 3, 1) := by decide +kernel
theorem dX12_hasBelow_16 : decode cX12_hasBelow 16 = .ok (.iconst 0, 1) := by decide +kernel
theorem dX12_hasBelow_17 : decode cX12_hasBelow 17 = .ok (.istore 4, 2) := by decide +kernel
theorem dX12_hasBelow_19 : decode cX12_hasBelow 19 = .ok (.iload 4, 2) := by decide +kernel
theorem dX12_hasBelow_21 : decode cX12_hasBelow 21 = .ok (.aload_n 0, 1) := by decide +kernel
theorem dX12_hasBelow_22 : decode cX12_hasBelow 22 = .ok (.getfield 204, 3) := by decide +kernel
theorem dX12_hasBelow_25 : decode cX12_hasBelow 25 = .ok (.if_icmp .ge 45, 3) := by decide +kernel
theorem dX12_hasBelow_28 : decode cX12_hasBelow 28 = .ok (.iload_n 3, 1) := by decide +kernel
theorem dX12_hasBelow_29 : decode cX12_hasBelow 29 = .ok (.ifCond .ne 29, 3) := by decide +kernel
theorem dX12_hasBelow_32 : decode cX12_hasBelow 32 = .ok (.aload_n 0, 1) := by decide +kernel
theorem dX12_hasBelow_33 : decode cX12_hasBelow 33 = .ok (.getfield 45, 3) := by decide +kernel
theorem dX12_hasBelow_36 : decode cX12_hasBelow 36 = .ok (.iload 4, 2) := by decide +kernel
theorem dX12_hasBelow_38 : decode cX12_hasBelow 38 = .ok (.iaload, 1) := by decide +kernel
theorem dX12_hasBelow_39 : decode cX12_hasBelow 39 = .ok (.iload_n 1, 1) := by decide +kernel
theorem dX12_hasBelow_40 : decode cX12_hasBelow 40 = .ok (.if_icmp .ne 22, 3) := by decide +kernel
theorem dX12_hasBelow_43 : decode cX12_hasBelow 43 = .ok (.aload_n 0, 1) := by decide +kernel
theorem dX12_hasBelow_44 : decode cX12_hasBelow 44 = .ok (.aload_n 0, 1) := by decide +kernel
theorem dX12_hasBelow_45 : decode cX12_hasBelow 45 = .ok (.getfield 48, 3) := by decide +kernel
theorem dX12_hasBelow_48 : decode cX12_hasBelow 48 = .ok (.iload 4, 2) := by decide +kernel
theorem dX12_hasBelow_50 : decode cX12_hasBelow 50 = .ok (.iaload, 1) := by decide +kernel
theorem dX12_hasBelow_51 : decode cX12_hasBelow 51 = .ok (.iload_n 2, 1) := by decide +kernel
theorem dX12_hasBelow_52 : decode cX12_hasBelow 52 = .ok (.invokevirtual 210, 3) := by decide +kernel
theorem dX12_hasBelow_55 : decode cX12_hasBelow 55 = .ok (.ifCond .eq 7, 3) := by decide +kernel
theorem dX12_hasBelow_58 : decode cX12_hasBelow 58 = .ok (.iconst 1, 1) := by decide +kernel
theorem dX12_hasBelow_59 : decode cX12_hasBelow 59 = .ok (.goto 4, 3) := by decide +kernel
theorem dX12_hasBelow_62 : decode cX12_hasBelow 62 = .ok (.iconst 0, 1) := by decide +kernel
theorem dX12_hasBelow_63 : decode cX12_hasBelow 63 = .ok (.istore_n 3, 1) := by decide +kernel
theorem dX12_hasBelow_64 : decode cX12_hasBelow 64 = .ok (.iinc 4 1, 3) := by decide +kernel
theorem dX12_hasBelow_67 : decode cX12_hasBelow 67 = .ok (.goto (-48), 3) := by decide +kernel
theorem dX12_hasBelow_70 : decode cX12_hasBelow 70 = .ok (.iload_n 3, 1) := by decide +kernel
theorem dX12_hasBelow_71 : decode cX12_hasBelow 71 = .ok (.ireturn, 1) := by decide +kernel
theorem dX12_tells_0 : decode cX12_tells 0 = .ok (.iconst 0, 1) := by decide +kernel
theorem dX12_tells_1 : decode cX12_tells 1 = .ok (.istore 5, 2) := by decide +kernel
theorem dX12_tells_3 : decode cX12_tells 3 = .ok (.iconst 0, 1) := by decide +kernel
theorem dX12_tells_4 : decode cX12_tells 4 = .ok (.istore 6, 2) := by decide +kernel
theorem dX12_tells_6 : decode cX12_tells 6 = .ok (.iload 6, 2) := by decide +kernel
theorem dX12_tells_8 : decode cX12_tells 8 = .ok (.aload_n 0, 1) := by decide +kernel
theorem dX12_tells_9 : decode cX12_tells 9 = .ok (.getfield 204, 3) := by decide +kernel
theorem dX12_tells_12 : decode cX12_tells 12 = .ok (.if_icmp .ge 84, 3) := by decide +kernel
theorem dX12_tells_15 : decode cX12_tells 15 = .ok (.aload_n 0, 1) := by decide +kernel
theorem dX12_tells_16 : decode cX12_tells 16 = .ok (.getfield 76, 3) := by decide +kernel
theorem dX12_tells_19 : decode cX12_tells 19 = .ok (.iload 6, 2) := by decide +kernel
theorem dX12_tells_21 : decode cX12_tells 21 = .ok (.aload_n 0, 1) := by decide +kernel
theorem dX12_tells_22 : decode cX12_tells 22 = .ok (.getfield 45, 3) := by decide +kernel
theorem dX12_tells_25 : decode cX12_tells 25 = .ok (.iload 6, 2) := by decide +kernel
theorem dX12_tells_27 : decode cX12_tells 27 = .ok (.iaload, 1) := by decide +kernel
theorem dX12_tells_28 : decode cX12_tells 28 = .ok (.iload_n 1, 1) := by decide +kernel
theorem dX12_tells_29 : decode cX12_tells 29 = .ok (.if_icmp .ne 39, 3) := by decide +kernel
theorem dX12_tells_32 : decode cX12_tells 32 = .ok (.aload_n 0, 1) := by decide +kernel
theorem dX12_tells_33 : decode cX12_tells 33 = .ok (.getfield 48, 3) := by decide +kernel
theorem dX12_tells_36 : decode cX12_tells 36 = .ok (.iload 6, 2) := by decide +kernel
theorem dX12_tells_38 : decode cX12_tells 38 = .ok (.iaload, 1) := by decide +kernel
theorem dX12_tells_39 : decode cX12_tells 39 = .ok (.iload_n 2, 1) := by decide +kernel
theorem dX12_tells_40 : decode cX12_tells 40 = .ok (.if_icmp .ne 28, 3) := by decide +kernel
theorem dX12_tells_43 : decode cX12_tells 43 = .ok (.aload_n 0, 1) := by decide +kernel
theorem dX12_tells_44 : decode cX12_tells 44 = .ok (.getfield 51, 3) := by decide +kernel
theorem dX12_tells_47 : decode cX12_tells 47 = .ok (.iload 6, 2) := by decide +kernel
theorem dX12_tells_49 : decode cX12_tells 49 = .ok (.iaload, 1) := by decide +kernel
theorem dX12_tells_50 : decode cX12_tells 50 = .ok (.iload_n 3, 1) := by decide +kernel
theorem dX12_tells_51 : decode cX12_tells 51 = .ok (.if_icmp .ne 17, 3) := by decide +kernel
theorem dX12_tells_54 : decode cX12_tells 54 = .ok (.iload 5, 2) := by decide +kernel
theorem dX12_tells_56 : decode cX12_tells 56 = .ok (.ifCond .eq 8, 3) := by decide +kernel
theorem dX12_tells_59 : decode cX12_tells 59 = .ok (.iload 4, 2) := by decide +kernel
theorem dX12_tells_61 : decode cX12_tells 61 = .ok (.ifCond .ne 7, 3) := by decide +kernel
theorem dX12_tells_64 : decode cX12_tells 64 = .ok (.iconst 1, 1) := by decide +kernel
theorem dX12_tells_65 : decode cX12_tells 65 = .ok (.goto 4, 3) := by decide +kernel
theorem dX12_tells_68 : decode cX12_tells 68 = .ok (.iconst 0, 1) := by decide +kernel
theorem dX12_tells_69 : decode cX12_tells 69 = .ok (.bastore, 1) := by decide +kernel
theorem dX12_tells_70 : decode cX12_tells 70 = .ok (.iload 5, 2) := by decide +kernel
theorem dX12_tells_72 : decode cX12_tells 72 = .ok (.aload_n 0, 1) := by decide +kernel
theorem dX12_tells_73 : decode cX12_tells 73 = .ok (.getfield 76, 3) := by decide +kernel
theorem dX12_tells_76 : decode cX12_tells 76 = .ok (.iload 6, 2) := by decide +kernel
theorem dX12_tells_78 : decode cX12_tells 78 = .ok (.baload, 1) := by decide +kernel
theorem dX12_tells_79 : decode cX12_tells 79 = .ok (.ifCond .eq 7, 3) := by decide +kernel
theorem dX12_tells_82 : decode cX12_tells 82 = .ok (.iconst 1, 1) := by decide +kernel
theorem dX12_tells_83 : decode cX12_tells 83 = .ok (.goto 4, 3) := by decide +kernel
theorem dX12_tells_86 : decode cX12_tells 86 = .ok (.iconst 0, 1) := by decide +kernel
theorem dX12_tells_87 : decode cX12_tells 87 = .ok (.iadd, 1) := by decide +kernel
theorem dX12_tells_88 : decode cX12_tells 88 = .ok (.istore 5, 2) := by decide +kernel
theorem dX12_tells_90 : decode cX12_tells 90 = .ok (.iinc 6 1, 3) := by decide +kernel
theorem dX12_tells_93 : decode cX12_tells 93 = .ok (.goto (-87), 3) := by decide +kernel
theorem dX12_tells_96 : decode cX12_tells 96 = .ok (.iload 5, 2) := by decide +kernel
theorem dX12_tells_98 : decode cX12_tells 98 = .ok (.ireturn, 1) := by decide +kernel
theorem dX12_putTold_0 : decode cX12_putTold 0 = .ok (.iconst 0, 1) := by decide +kernel
theorem dX12_putTold_1 : decode cX12_putTold 1 = .ok (.istore_n 1, 1) := by decide +kernel
theorem dX12_putTold_2 : decode cX12_putTold 2 = .ok (.iload_n 1, 1) := by decide +kernel
theorem dX12_putTold_3 : decode cX12_putTold 3 = .ok (.aload_n 0, 1) := by decide +kernel
theorem dX12_putTold_4 : decode cX12_putTold 4 = .ok (.getfield 204, 3) := by decide +kernel
theorem dX12_putTold_7 : decode cX12_putTold 7 = .ok (.if_icmp .ge 23, 3) := by decide +kernel
theorem dX12_putTold_10 : decode cX12_putTold 10 = .ok (.aload_n 0, 1) := by decide +kernel
theorem dX12_putTold_11 : decode cX12_putTold 11 = .ok (.getfield 76, 3) := by decide +kernel
theorem dX12_putTold_14 : decode cX12_putTold 14 = .ok (.iload_n 1, 1) := by decide +kernel
theorem dX12_putTold_15 : decode cX12_putTold 15 = .ok (.baload, 1) := by decide +kernel
theorem dX12_putTold_16 : decode cX12_putTold 16 = .ok (.ifCond .eq 8, 3) := by decide +kernel
theorem dX12_putTold_19 : decode cX12_putTold 19 = .ok (.aload_n 0, 1) := by decide +kernel
theorem dX12_putTold_20 : decode cX12_putTold 20 = .ok (.iload_n 1, 1) := by decide +kernel
theorem dX12_putTold_21 : decode cX12_putTold 21 = .ok (.invokevirtual 250, 3) := by decide +kernel
theorem dX12_putTold_24 : decode cX12_putTold 24 = .ok (.iinc 1 1, 3) := by decide +kernel
theorem dX12_putTold_27 : decode cX12_putTold 27 = .ok (.goto (-25), 3) := by decide +kernel
theorem dX12_putTold_30 : decode cX12_putTold 30 = .ok (.return_, 1) := by decide +kernel
theorem dX12_putTop_0 : decode cX12_putTop 0 = .ok (.aload_n 0, 1) := by decide +kernel
theorem dX12_putTop_1 : decode cX12_putTop 1 = .ok (.iconst 0, 1) := by decide +kernel
theorem dX12_putTop_2 : decode cX12_putTop 2 = .ok (.putfield 229, 3) := by decide +kernel
theorem dX12_putTop_5 : decode cX12_putTop 5 = .ok (.iconst 0, 1) := by decide +kernel
theorem dX12_putTop_6 : decode cX12_putTop 6 = .ok (.istore 8, 2) := by decide +kernel
theorem dX12_putTop_8 : decode cX12_putTop 8 = .ok (.iload 8, 2) := by decide +kernel
theorem dX12_putTop_10 : decode cX12_putTop 10 = .ok (.aload_n 0, 1) := by decide +kernel
theorem dX12_putTop_11 : decode cX12_putTop 11 = .ok (.getfield 23, 3) := by decide +kernel
theorem dX12_putTop_14 : decode cX12_putTop 14 = .ok (.if_icmp .ge 17, 3) := by decide +kernel
theorem dX12_putTop_17 : decode cX12_putTop 17 = .ok (.aload_n 0, 1) := by decide +kernel
theorem dX12_putTop_18 : decode cX12_putTop 18 = .ok (.getfield 73, 3) := by decide +kernel
theorem dX12_putTop_21 : decode cX12_putTop 21 = .ok (.iload 8, 2) := by decide +kernel
theorem dX12_putTop_23 : decode cX12_putTop 23 = .ok (.iconst (-1), 1) := by decide +kernel
theorem dX12_putTop_24 : decode cX12_putTop 24 = .ok (.iastore, 1) := by decide +kernel
theorem dX12_putTop_25 : decode cX12_putTop 25 = .ok (.iinc 8 1, 3) := by decide +kernel
theorem dX12_putTop_28 : decode cX12_putTop 28 = .ok (.goto (-20), 3) := by decide +kernel
theorem dX12_putTop_31 : decode cX12_putTop 31 = .ok (.aload_n 0, 1) := by decide +kernel
theorem dX12_putTop_32 : decode cX12_putTop 32 = .ok (.iload_n 1, 1) := by decide +kernel
theorem dX12_putTop_33 : decode cX12_putTop 33 = .ok (.invokevirtual 236, 3) := by decide +kernel
theorem dX12_putTop_36 : decode cX12_putTop 36 = .ok (.aload_n 0, 1) := by decide +kernel
theorem dX12_putTop_37 : decode cX12_putTop 37 = .ok (.ldc 253, 2) := by decide +kernel
theorem dX12_putTop_39 : decode cX12_putTop 39 = .ok (.iload_n 2, 1) := by decide +kernel
theorem dX12_putTop_40 : decode cX12_putTop 40 = .ok (.ior, 1) := by decide +kernel
theorem dX12_putTop_41 : decode cX12_putTop 41 = .ok (.invokevirtual 236, 3) := by decide +kernel
theorem dX12_putTop_44 : decode cX12_putTop 44 = .ok (.aload_n 0, 1) := by decide +kernel
theorem dX12_putTop_45 : decode cX12_putTop 45 = .ok (.iconst 1, 1) := by decide +kernel
theorem dX12_putTop_46 : decode cX12_putTop 46 = .ok (.invokevirtual 236, 3) := by decide +kernel
theorem dX12_putTop_49 : decode cX12_putTop 49 = .ok (.aload_n 0, 1) := by decide +kernel
theorem dX12_putTop_50 : decode cX12_putTop 50 = .ok (.iload_n 3, 1) := by decide +kernel
theorem dX12_putTop_51 : decode cX12_putTop 51 = .ok (.invokevirtual 236, 3) := by decide +kernel
theorem dX12_putTop_54 : decode cX12_putTop 54 = .ok (.aload_n 0, 1) := by decide +kernel
theorem dX12_putTop_55 : decode cX12_putTop 55 = .ok (.iload 4, 2) := by decide +kernel
theorem dX12_putTop_57 : decode cX12_putTop 57 = .ok (.invokevirtual 236, 3) := by decide +kernel
theorem dX12_putTop_60 : decode cX12_putTop 60 = .ok (.aload_n 0, 1) := by decide +kernel
theorem dX12_putTop_61 : decode cX12_putTop 61 = .ok (.iload 5, 2) := by decide +kernel
theorem dX12_putTop_63 : decode cX12_putTop 63 = .ok (.invokevirtual 236, 3) := by decide +kernel
theorem dX12_putTop_66 : decode cX12_putTop 66 = .ok (.aload_n 0, 1) := by decide +kernel
theorem dX12_putTop_67 : decode cX12_putTop 67 = .ok (.iload 6, 2) := by decide +kernel
theorem dX12_putTop_69 : decode cX12_putTop 69 = .ok (.invokevirtual 240, 3) := by decide +kernel
theorem dX12_putTop_72 : decode cX12_putTop 72 = .ok (.aload_n 0, 1) := by decide +kernel
theorem dX12_putTop_73 : decode cX12_putTop 73 = .ok (.iload 7, 2) := by decide +kernel
theorem dX12_putTop_75 : decode cX12_putTop 75 = .ok (.invokevirtual 236, 3) := by decide +kernel
theorem dX12_putTop_78 : decode cX12_putTop 78 = .ok (.aload_n 0, 1) := by decide +kernel
theorem dX12_putTop_79 : decode cX12_putTop 79 = .ok (.iconst 1, 1) := by decide +kernel
theorem dX12_putTop_80 : decode cX12_putTop 80 = .ok (.invokevirtual 236, 3) := by decide +kernel
theorem dX12_putTop_83 : decode cX12_putTop 83 = .ok (.return_, 1) := by decide +kernel
theorem dX12_isGlue_0 : decode cX12_isGlue 0 = .ok (.aload_n 0, 1) := by decide +kernel
theorem dX12_isGlue_1 : decode cX12_isGlue 1 = .ok (.getfield 45, 3) := by decide +kernel
theorem dX12_isGlue_4 : decode cX12_isGlue 4 = .ok (.iload_n 3, 1) := by decide +kernel
theorem dX12_isGlue_5 : decode cX12_isGlue 5 = .ok (.iaload, 1) := by decide +kernel
theorem dX12_isGlue_6 : decode cX12_isGlue 6 = .ok (.iload_n 1, 1) := by decide +kernel
theorem dX12_isGlue_7 : decode cX12_isGlue 7 = .ok (.if_icmp .ne 13, 3) := by decide +kernel
theorem dX12_isGlue_10 : decode cX12_isGlue 10 = .ok (.aload_n 0, 1) := by decide +kernel
theorem dX12_isGlue_11 : decode cX12_isGlue 11 = .ok (.getfield 51, 3) := by decide +kernel
theorem dX12_isGlue_14 : decode cX12_isGlue 14 = .ok (.iload_n 3, 1) := by decide +kernel
theorem dX12_isGlue_15 : decode cX12_isGlue 15 = .ok (.iaload, 1) := by decide +kernel
theorem dX12_isGlue_16 : decode cX12_isGlue 16 = .ok (.iconst 1, 1) := by decide +kernel
theorem dX12_isGlue_17 : decode cX12_isGlue 17 = .ok (.if_icmp .eq 5, 3) := by decide +kernel
theorem dX12_isGlue_20 : decode cX12_isGlue 20 = .ok (.iconst 0, 1) := by decide +kernel
theorem dX12_isGlue_21 : decode cX12_isGlue 21 = .ok (.ireturn, 1) := by decide +kernel
theorem dX12_isGlue_22 : decode cX12_isGlue 22 = .ok (.iconst 0, 1) := by decide +kernel
theorem dX12_isGlue_23 : decode cX12_isGlue 23 = .ok (.istore 4, 2) := by decide +kernel
theorem dX12_isGlue_25 : decode cX12_isGlue 25 = .ok (.iconst 0, 1) := by decide +kernel
theorem dX12_isGlue_26 : decode cX12_isGlue 26 = .ok (.istore 5, 2) := by decide +kernel
theorem dX12_isGlue_28 : decode cX12_isGlue 28 = .ok (.iload 5, 2) := by decide +kernel
theorem dX12_isGlue_30 : decode cX12_isGlue 30 = .ok (.aload_n 0, 1) := by decide +kernel
theorem dX12_isGlue_31 : decode cX12_isGlue 31 = .ok (.getfield 204, 3) := by decide +kernel
theorem dX12_isGlue_34 : decode cX12_isGlue 34 = .ok (.if_icmp .ge 70, 3) := by decide +kernel
theorem dX12_isGlue_37 : decode cX12_isGlue 37 = .ok (.iload 4, 2) := by decide +kernel
theorem dX12_isGlue_39 : decode cX12_isGlue 39 = .ok (.ifCond .ne 52, 3) := by decide +kernel
theorem dX12_isGlue_42 : decode cX12_isGlue 42 = .ok (.aload_n 0, 1) := by decide +kernel
theorem dX12_isGlue_43 : decode cX12_isGlue 43 = .ok (.getfield 45, 3) := by decide +kernel
theorem dX12_isGlue_46 : decode cX12_isGlue 46 = .ok (.iload 5, 2) := by decide +kernel
theorem dX12_isGlue_48 : decode cX12_isGlue 48 = .ok (.iaload, 1) := by decide +kernel
theorem dX12_isGlue_49 : decode cX12_isGlue 49 = .ok (.iload_n 1, 1) := by decide +kernel
theorem dX12_isGlue_50 : decode cX12_isGlue 50 = .ok (.if_icmp .ne 45, 3) := by decide +kernel
theorem dX12_isGlue_53 : decode cX12_isGlue 53 = .ok (.aload_n 0, 1) := by decide +kernel
theorem dX12_isGlue_54 : decode cX12_isGlue 54 = .ok (.getfield 48, 3) := by decide +kernel
theorem dX12_isGlue_57 : decode cX12_isGlue 57 = .ok (.iload 5, 2) := by decide +kernel
theorem dX12_isGlue_59 : decode cX12_isGlue 59 = .ok (.iaload, 1) := by decide +kernel
theorem dX12_isGlue_60 : decode cX12_isGlue 60 = .ok (.iload_n 2, 1) := by decide +kernel
theorem dX12_isGlue_61 : decode cX12_isGlue 61 = .ok (.if_icmp .ne 34, 3) := by decide +kernel
theorem dX12_isGlue_64 : decode cX12_isGlue 64 = .ok (.aload_n 0, 1) := by decide +kernel
theorem dX12_isGlue_65 : decode cX12_isGlue 65 = .ok (.getfield 51, 3) := by decide +kernel
theorem dX12_isGlue_68 : decode cX12_isGlue 68 = .ok (.iload 5, 2) := by decide +kernel
theorem dX12_isGlue_70 : decode cX12_isGlue 70 = .ok (.iaload, 1) := by decide +kernel
theorem dX12_isGlue_71 : decode cX12_isGlue 71 = .ok (.iconst 2, 1) := by decide +kernel
theorem dX12_isGlue_72 : decode cX12_isGlue 72 = .ok (.if_icmp .ne 23, 3) := by decide +kernel
theorem dX12_isGlue_75 : decode cX12_isGlue 75 = .ok (.aload_n 0, 1) := by decide +kernel
theorem dX12_isGlue_76 : decode cX12_isGlue 76 = .ok (.getfield 54, 3) := by decide +kernel
theorem dX12_isGlue_79 : decode cX12_isGlue 79 = .ok (.iload 5, 2) := by decide +kernel
theorem dX12_isGlue_81 : decode cX12_isGlue 81 = .ok (.iaload, 1) := by decide +kernel
theorem dX12_isGlue_82 : decode cX12_isGlue 82 = .ok (.aload_n 0, 1) := by decide +kernel
theorem dX12_isGlue_83 : decode cX12_isGlue 83 = .ok (.getfield 48, 3) := by decide +kernel
theorem dX12_isGlue_86 : decode cX12_isGlue 86 = .ok (.iload_n 3, 1) := by decide +kernel
theorem dX12_isGlue_87 : decode cX12_isGlue 87 = .ok (.iaload, 1) := by decide +kernel
theorem dX12_isGlue_88 : decode cX12_isGlue 88 = .ok (.if_icmp .ne 7, 3) := by decide +kernel
theorem dX12_isGlue_91 : decode cX12_isGlue 91 = .ok (.iconst 1, 1) := by decide +kernel
theorem dX12_isGlue_92 : decode cX12_isGlue 92 = .ok (.goto 4, 3) := by decide +kernel
theorem dX12_isGlue_95 : decode cX12_isGlue 95 = .ok (.iconst 0, 1) := by decide +kernel
theorem dX12_isGlue_96 : decode cX12_isGlue 96 = .ok (.istore 4, 2) := by decide +kernel
theorem dX12_isGlue_98 : decode cX12_isGlue 98 = .ok (.iinc 5 1, 3) := by decide +kernel
theorem dX12_isGlue_101 : decode cX12_isGlue 101 = .ok (.goto (-73), 3) := by decide +kernel
theorem dX12_isGlue_104 : decode cX12_isGlue 104 = .ok (.iload 4, 2) := by decide +kernel
theorem dX12_isGlue_106 : decode cX12_isGlue 106 = .ok (.ireturn, 1) := by decide +kernel
theorem dX12_refers_0 : decode cX12_refers 0 = .ok (.iconst 0, 1) := by decide +kernel
theorem dX12_refers_1 : decode cX12_refers 1 = .ok (.istore 6, 2) := by decide +kernel
theorem dX12_refers_3 : decode cX12_refers 3 = .ok (.iconst 0, 1) := by decide +kernel
theorem dX12_refers_4 : decode cX12_refers 4 = .ok (.istore 7, 2) := by decide +kernel
theorem dX12_refers_6 : decode cX12_refers 6 = .ok (.iload 7, 2) := by decide +kernel
theorem dX12_refers_8 : decode cX12_refers 8 = .ok (.aload_n 0, 1) := by decide +kernel
theorem dX12_refers_9 : decode cX12_refers 9 = .ok (.getfield 204, 3) := by decide +kernel
theorem dX12_refers_12 : decode cX12_refers 12 = .ok (.if_icmp .ge 30, 3) := by decide +kernel
theorem dX12_refers_15 : decode cX12_refers 15 = .ok (.iload 6, 2) := by decide +kernel
theorem dX12_refers_17 : decode cX12_refers 17 = .ok (.aload_n 0, 1) := by decide +kernel
theorem dX12_refers_18 : decode cX12_refers 18 = .ok (.iload_n 1, 1) := by decide +kernel
theorem dX12_refers_19 : decode cX12_refers 19 = .ok (.iload_n 2, 1) := by decide +kernel
theorem dX12_refers_20 : decode cX12_refers 20 = .ok (.iload 7, 2) := by decide +kernel
theorem dX12_refers_22 : decode cX12_refers 22 = .ok (.invokevirtual 254, 3) := by decide +kernel
theorem dX12_refers_25 : decode cX12_refers 25 = .ok (.ifCond .eq 7, 3) := by decide +kernel
theorem dX12_refers_28 : decode cX12_refers 28 = .ok (.iconst 1, 1) := by decide +kernel
theorem dX12_refers_29 : decode cX12_refers 29 = .ok (.goto 4, 3) := by decide +kernel
theorem dX12_refers_32 : decode cX12_refers 32 = .ok (.iconst 0, 1) := by decide +kernel
theorem dX12_refers_33 : decode cX12_refers 33 = .ok (.iadd, 1) := by decide +kernel
theorem dX12_refers_34 : decode cX12_refers 34 = .ok (.istore 6, 2) := by decide +kernel
theorem dX12_refers_36 : decode cX12_refers 36 = .ok (.iinc 7 1, 3) := by decide +kernel
theorem dX12_refers_39 : decode cX12_refers 39 = .ok (.goto (-33), 3) := by decide +kernel
theorem dX12_refers_42 : decode cX12_refers 42 = .ok (.aload_n 0, 1) := by decide +kernel
theorem dX12_refers_43 : decode cX12_refers 43 = .ok (.iload_n 1, 1) := by decide +kernel
theorem dX12_refers_44 : decode cX12_refers 44 = .ok (.iload_n 2, 1) := by decide +kernel
theorem dX12_refers_45 : decode cX12_refers 45 = .ok (.iconst 2, 1) := by decide +kernel
theorem dX12_refers_46 : decode cX12_refers 46 = .ok (.iconst 0, 1) := by decide +kernel
theorem dX12_refers_47 : decode cX12_refers 47 = .ok (.invokevirtual 258, 3) := by decide +kernel
theorem dX12_refers_50 : decode cX12_refers 50 = .ok (.istore 7, 2) := by decide +kernel
theorem dX12_refers_52 : decode cX12_refers 52 = .ok (.aload_n 0, 1) := by decide +kernel
theorem dX12_refers_53 : decode cX12_refers 53 = .ok (.iload_n 3, 1) := by decide +kernel
theorem dX12_refers_54 : decode cX12_refers 54 = .ok (.iconst 0, 1) := by decide +kernel
theorem dX12_refers_55 : decode cX12_refers 55 = .ok (.iconst 0, 1) := by decide +kernel
theorem dX12_refers_56 : decode cX12_refers 56 = .ok (.iload 7, 2) := by decide +kernel
theorem dX12_refers_58 : decode cX12_refers 58 = .ok (.iload 6, 2) := by decide +kernel
theorem dX12_refers_60 : decode cX12_refers 60 = .ok (.iload 4, 2) := by decide +kernel
theorem dX12_refers_62 : decode cX12_refers 62 = .ok (.iload 5, 2) := by decide +kernel
theorem dX12_refers_64 : decode cX12_refers 64 = .ok (.invokevirtual 262, 3) := by decide +kernel
theorem dX12_refers_67 : decode cX12_refers 67 = .ok (.aload_n 0, 1) := by decide +kernel
theorem dX12_refers_68 : decode cX12_refers 68 = .ok (.invokevirtual 266, 3) := by decide +kernel
theorem dX12_refers_71 : decode cX12_refers 71 = .ok (.iconst 0, 1) := by decide +kernel
theorem dX12_refers_72 : decode cX12_refers 72 = .ok (.istore 8, 2) := by decide +kernel
theorem dX12_refers_74 : decode cX12_refers 74 = .ok (.iload 8, 2) := by decide +kernel
theorem dX12_refers_76 : decode cX12_refers 76 = .ok (.aload_n 0, 1) := by decide +kernel
theorem dX12_refers_77 : decode cX12_refers 77 = .ok (.getfield 204, 3) := by decide +kernel
theorem dX12_refers_80 : decode cX12_refers 80 = .ok (.if_icmp .ge 26, 3) := by decide +kernel
theorem dX12_refers_83 : decode cX12_refers 83 = .ok (.aload_n 0, 1) := by decide +kernel
theorem dX12_refers_84 : decode cX12_refers 84 = .ok (.iload_n 1, 1) := by decide +kernel
theorem dX12_refers_85 : decode cX12_refers 85 = .ok (.iload_n 2, 1) := by decide +kernel
theorem dX12_refers_86 : decode cX12_refers 86 = .ok (.iload 8, 2) := by decide +kernel
theorem dX12_refers_88 : decode cX12_refers 88 = .ok (.invokevirtual 254, 3) := by decide +kernel
theorem dX12_refers_91 : decode cX12_refers 91 = .ok (.ifCond .eq 9, 3) := by decide +kernel
theorem dX12_refers_94 : decode cX12_refers 94 = .ok (.aload_n 0, 1) := by decide +kernel
theorem dX12_refers_95 : decode cX12_refers 95 = .ok (.iload 8, 2) := by decide +kernel
theorem dX12_refers_97 : decode cX12_refers 97 = .ok (.invokevirtual 250, 3) := by decide +kernel
theorem dX12_refers_100 : decode cX12_refers 100 = .ok (.iinc 8 1, 3) := by decide +kernel
theorem dX12_refers_103 : decode cX12_refers 103 = .ok (.goto (-29), 3) := by decide +kernel
theorem dX12_refers_106 : decode cX12_refers 106 = .ok (.return_, 1) := by decide +kernel
theorem dX12_says_0 : decode cX12_says 0 = .ok (.aload_n 0, 1) := by decide +kernel
theorem dX12_says_1 : decode cX12_says 1 = .ok (.iload_n 1, 1) := by decide +kernel
theorem dX12_says_2 : decode cX12_says 2 = .ok (.iload_n 3, 1) := by decide +kernel
theorem dX12_says_3 : decode cX12_says 3 = .ok (.invokevirtual 269, 3) := by decide +kernel
theorem dX12_says_6 : decode cX12_says 6 = .ok (.istore 5, 2) := by decide +kernel
theorem dX12_says_8 : decode cX12_says 8 = .ok (.iload 5, 2) := by decide +kernel
theorem dX12_says_10 : decode cX12_says 10 = .ok (.ifCond .ge 5, 3) := by decide +kernel
theorem dX12_says_13 : decode cX12_says 13 = .ok (.iconst 0, 1) := by decide +kernel
theorem dX12_says_14 : decode cX12_says 14 = .ok (.ireturn, 1) := by decide +kernel
theorem dX12_says_15 : decode cX12_says 15 = .ok (.aload_n 0, 1) := by decide +kernel
theorem dX12_says_16 : decode cX12_says 16 = .ok (.iload 5, 2) := by decide +kernel
theorem dX12_says_18 : decode cX12_says 18 = .ok (.iload_n 3, 1) := by decide +kernel
theorem dX12_says_19 : decode cX12_says 19 = .ok (.invokevirtual 273, 3) := by decide +kernel
theorem dX12_says_22 : decode cX12_says 22 = .ok (.istore 6, 2) := by decide +kernel
theorem dX12_says_24 : decode cX12_says 24 = .ok (.iload 6, 2) := by decide +kernel
theorem dX12_says_26 : decode cX12_says 26 = .ok (.ifCond .lt 34, 3) := by decide +kernel
theorem dX12_says_29 : decode cX12_says 29 = .ok (.aload_n 0, 1) := by decide +kernel
theorem dX12_says_30 : decode cX12_says 30 = .ok (.iload 5, 2) := by decide +kernel
theorem dX12_says_32 : decode cX12_says 32 = .ok (.iload 6, 2) := by decide +kernel
theorem dX12_says_34 : decode cX12_says 34 = .ok (.iload_n 2, 1) := by decide +kernel
theorem dX12_says_35 : decode cX12_says 35 = .ok (.iload_n 3, 1) := by decide +kernel
theorem dX12_says_36 : decode cX12_says 36 = .ok (.iload 4, 2) := by decide +kernel
theorem dX12_says_38 : decode cX12_says 38 = .ok (.invokevirtual 276, 3) := by decide +kernel
theorem dX12_says_41 : decode cX12_says 41 = .ok (.aload_n 0, 1) := by decide +kernel
theorem dX12_says_42 : decode cX12_says 42 = .ok (.getfield 229, 3) := by decide +kernel
theorem dX12_says_45 : decode cX12_says 45 = .ok (.sipush 1000, 3) := by decide +kernel
theorem dX12_says_48 : decode cX12_says 48 = .ok (.if_icmp .le 7, 3) := by decide +kernel
theorem dX12_says_51 : decode cX12_says 51 = .ok (.iconst 0, 1) := by decide +kernel
theorem dX12_says_52 : decode cX12_says 52 = .ok (.goto 7, 3) := by decide +kernel
theorem dX12_says_55 : decode cX12_says 55 = .ok (.aload_n 0, 1) := by decide +kernel
theorem dX12_says_56 : decode cX12_says 56 = .ok (.getfield 229, 3) := by decide +kernel
theorem dX12_says_59 : decode cX12_says 59 = .ok (.ireturn, 1) := by decide +kernel
theorem dX12_says_60 : decode cX12_says 60 = .ok (.iload 4, 2) := by decide +kernel
theorem dX12_says_62 : decode cX12_says 62 = .ok (.iconst 5, 1) := by decide +kernel
theorem dX12_says_63 : decode cX12_says 63 = .ok (.if_icmp .eq 15, 3) := by decide +kernel
theorem dX12_says_66 : decode cX12_says 66 = .ok (.aload_n 0, 1) := by decide +kernel
theorem dX12_says_67 : decode cX12_says 67 = .ok (.iload 5, 2) := by decide +kernel
theorem dX12_says_69 : decode cX12_says 69 = .ok (.iload_n 3, 1) := by decide +kernel
theorem dX12_says_70 : decode cX12_says 70 = .ok (.iconst 5, 1) := by decide +kernel
theorem dX12_says_71 : decode cX12_says 71 = .ok (.iconst 1, 1) := by decide +kernel
theorem dX12_says_72 : decode cX12_says 72 = .ok (.invokevirtual 258, 3) := by decide +kernel
theorem dX12_says_75 : decode cX12_says 75 = .ok (.goto 4, 3) := by decide +kernel
theorem dX12_says_78 : decode cX12_says 78 = .ok (.iconst 0, 1) := by decide +kernel
theorem dX12_says_79 : decode cX12_says 79 = .ok (.istore 7, 2) := by decide +kernel
theorem dX12_says_81 : decode cX12_says 81 = .ok (.iload 7, 2) := by decide +kernel
theorem dX12_says_83 : decode cX12_says 83 = .ok (.ifCond .ne 15, 3) := by decide +kernel
theorem dX12_says_86 : decode cX12_says 86 = .ok (.aload_n 0, 1) := by decide +kernel
theorem dX12_says_87 : decode cX12_says 87 = .ok (.iload 5, 2) := by decide +kernel
theorem dX12_says_89 : decode cX12_says 89 = .ok (.iload_n 3, 1) := by decide +kernel
theorem dX12_says_90 : decode cX12_says 90 = .ok (.iload 4, 2) := by decide +kernel
theorem dX12_says_92 : decode cX12_says 92 = .ok (.iconst 0, 1) := by decide +kernel
theorem dX12_says_93 : decode cX12_says 93 = .ok (.invokevirtual 258, 3) := by decide +kernel
theorem dX12_says_96 : decode cX12_says 96 = .ok (.istore 7, 2) := by decide +kernel
theorem dX12_says_98 : decode cX12_says 98 = .ok (.iload 7, 2) := by decide +kernel
theorem dX12_says_100 : decode cX12_says 100 = .ok (.ifCond .le 25, 3) := by decide +kernel
theorem dX12_says_103 : decode cX12_says 103 = .ok (.aload_n 0, 1) := by decide +kernel
theorem dX12_says_104 : decode cX12_says 104 = .ok (.iload_n 2, 1) := by decide +kernel
theorem dX12_says_105 : decode cX12_says 105 = .ok (.sipush 1024, 3) := by decide +kernel
theorem dX12_says_108 : decode cX12_says 108 = .ok (.iload 7, 2) := by decide +kernel
theorem dX12_says_110 : decode cX12_says 110 = .ok (.iconst 0, 1) := by decide +kernel
theorem dX12_says_111 : decode cX12_says 111 = .ok (.iconst 0, 1) := by decide +kernel
theorem dX12_says_112 : decode cX12_says 112 = .ok (.iload_n 3, 1) := by decide +kernel
theorem dX12_says_113 : decode cX12_says 113 = .ok (.iload 4, 2) := by decide +kernel
theorem dX12_says_115 : decode cX12_says 115 = .ok (.invokevirtual 262, 3) := by decide +kernel
theorem dX12_says_118 : decode cX12_says 118 = .ok (.aload_n 0, 1) := by decide +kernel
theorem dX12_says_119 : decode cX12_says 119 = .ok (.invokevirtual 266, 3) := by decide +kernel
theorem dX12_says_122 : decode cX12_says 122 = .ok (.goto 39, 3) := by decide +kernel
theorem dX12_says_125 : decode cX12_says 125 = .ok (.aload_n 0, 1) := by decide +kernel
theorem dX12_says_126 : decode cX12_says 126 = .ok (.iload_n 2, 1) := by decide +kernel
theorem dX12_says_127 : decode cX12_says 127 = .ok (.sipush 1024, 3) := by decide +kernel
theorem dX12_says_130 : decode cX12_says 130 = .ok (.aload_n 0, 1) := by decide +kernel
theorem dX12_says_131 : decode cX12_says 131 = .ok (.iload 5, 2) := by decide +kernel
theorem dX12_says_133 : decode cX12_says 133 = .ok (.iload_n 3, 1) := by decide +kernel
theorem dX12_says_134 : decode cX12_says 134 = .ok (.invokevirtual 280, 3) := by decide +kernel
theorem dX12_says_137 : decode cX12_says 137 = .ok (.ifCond .eq 7, 3) := by decide +kernel
theorem dX12_says_140 : decode cX12_says 140 = .ok (.iconst 0, 1) := by decide +kernel
theorem dX12_says_141 : decode cX12_says 141 = .ok (.goto 4, 3) := by decide +kernel
theorem dX12_says_144 : decode cX12_says 144 = .ok (.iconst 3, 1) := by decide +kernel
theorem dX12_says_145 : decode cX12_says 145 = .ok (.ior, 1) := by decide +kernel
theorem dX12_says_146 : decode cX12_says 146 = .ok (.iconst 0, 1) := by decide +kernel
theorem dX12_says_147 : decode cX12_says 147 = .ok (.iconst 1, 1) := by decide +kernel
theorem dX12_says_148 : decode cX12_says 148 = .ok (.iconst 0, 1) := by decide +kernel
theorem dX12_says_149 : decode cX12_says 149 = .ok (.iload_n 3, 1) := by decide +kernel
theorem dX12_says_150 : decode cX12_says 150 = .ok (.iload 4, 2) := by decide +kernel
theorem dX12_says_152 : decode cX12_says 152 = .ok (.invokevirtual 262, 3) := by decide +kernel
theorem dX12_says_155 : decode cX12_says 155 = .ok (.aload_n 0, 1) := by decide +kernel
theorem dX12_says_156 : decode cX12_says 156 = .ok (.iload 5, 2) := by decide +kernel
theorem dX12_says_158 : decode cX12_says 158 = .ok (.invokevirtual 283, 3) := by decide +kernel
theorem dX12_says_161 : decode cX12_says 161 = .ok (.aload_n 0, 1) := by decide +kernel
theorem dX12_says_162 : decode cX12_says 162 = .ok (.getfield 229, 3) := by decide +kernel
theorem dX12_says_165 : decode cX12_says 165 = .ok (.sipush 1000, 3) := by decide +kernel
theorem dX12_says_168 : decode cX12_says 168 = .ok (.if_icmp .le 7, 3) := by decide +kernel
theorem dX12_says_171 : decode cX12_says 171 = .ok (.iconst 0, 1) := by decide +kernel
theorem dX12_says_172 : decode cX12_says 172 = .ok (.goto 7, 3) := by decide +kernel
theorem dX12_says_175 : decode cX12_says 175 = .ok (.aload_n 0, 1) := by decide +kernel
theorem dX12_says_176 : decode cX12_says 176 = .ok (.getfield 229, 3) := by decide +kernel
theorem dX12_says_179 : decode cX12_says 179 = .ok (.ireturn, 1) := by decide +kernel
theorem dX12_say_0 : decode cX12_say 0 = .ok (.aload_n 0, 1) := by decide +kernel
theorem dX12_say_1 : decode cX12_say 1 = .ok (.iconst 0, 1) := by decide +kernel
theorem dX12_say_2 : decode cX12_say 2 = .ok (.putfield 149, 3) := by decide +kernel
theorem dX12_say_5 : decode cX12_say 5 = .ok (.aload_n 0, 1) := by decide +kernel
theorem dX12_say_6 : decode cX12_say 6 = .ok (.aload_n 0, 1) := by decide +kernel
theorem dX12_say_7 : decode cX12_say 7 = .ok (.iload_n 1, 1) := by decide +kernel
theorem dX12_say_8 : decode cX12_say 8 = .ok (.invokevirtual 223, 3) := by decide +kernel
theorem dX12_say_11 : decode cX12_say 11 = .ok (.ifCond .ne 11, 3) := by decide +kernel
theorem dX12_say_14 : decode cX12_say 14 = .ok (.aload_n 0, 1) := by decide +kernel
theorem dX12_say_15 : decode cX12_say 15 = .ok (.iload_n 2, 1) := by decide +kernel
theorem dX12_say_16 : decode cX12_say 16 = .ok (.invokevirtual 187, 3) := by decide +kernel
theorem dX12_say_19 : decode cX12_say 19 = .ok (.ifCond .eq 7, 3) := by decide +kernel
theorem dX12_say_22 : decode cX12_say 22 = .ok (.iconst 1, 1) := by decide +kernel
theorem dX12_say_23 : decode cX12_say 23 = .ok (.goto 4, 3) := by decide +kernel
theorem dX12_say_26 : decode cX12_say 26 = .ok (.iconst 0, 1) := by decide +kernel
theorem dX12_say_27 : decode cX12_say 27 = .ok (.iconst 1, 1) := by decide +kernel
theorem dX12_say_28 : decode cX12_say 28 = .ok (.invokevirtual 176, 3) := by decide +kernel
theorem dX12_say_31 : decode cX12_say 31 = .ok (.ifCond .eq 5, 3) := by decide +kernel
theorem dX12_say_34 : decode cX12_say 34 = .ok (.iconst 0, 1) := by decide +kernel
theorem dX12_say_35 : decode cX12_say 35 = .ok (.ireturn, 1) := by decide +kernel
theorem dX12_say_36 : decode cX12_say 36 = .ok (.aload_n 0, 1) := by decide +kernel
theorem dX12_say_37 : decode cX12_say 37 = .ok (.aload_n 0, 1) := by decide +kernel
theorem dX12_say_38 : decode cX12_say 38 = .ok (.iload_n 1, 1) := by decide +kernel
theorem dX12_say_39 : decode cX12_say 39 = .ok (.iconst 0, 1) := by decide +kernel
theorem dX12_say_40 : decode cX12_say 40 = .ok (.iload_n 2, 1) := by decide +kernel
theorem dX12_say_41 : decode cX12_say 41 = .ok (.iload_n 3, 1) := by decide +kernel
theorem dX12_say_42 : decode cX12_say 42 = .ok (.invokevirtual 286, 3) := by decide +kernel
theorem dX12_say_45 : decode cX12_say 45 = .ok (.putfield 162, 3) := by decide +kernel
theorem dX12_say_48 : decode cX12_say 48 = .ok (.iconst 0, 1) := by decide +kernel
theorem dX12_say_49 : decode cX12_say 49 = .ok (.istore 4, 2) := by decide +kernel
theorem dX12_say_51 : decode cX12_say 51 = .ok (.iload 4, 2) := by decide +kernel
theorem dX12_say_53 : decode cX12_say 53 = .ok (.aload_n 0, 1) := by decide +kernel
theorem dX12_say_54 : decode cX12_say 54 = .ok (.getfield 162, 3) := by decide +kernel
theorem dX12_say_57 : decode cX12_say 57 = .ok (.if_icmp .ge 23, 3) := by decide +kernel
theorem dX12_say_60 : decode cX12_say 60 = .ok (.aload_n 0, 1) := by decide +kernel
theorem dX12_say_61 : decode cX12_say 61 = .ok (.getfield 33, 3) := by decide +kernel
theorem dX12_say_64 : decode cX12_say 64 = .ok (.iload 4, 2) := by decide +kernel
theorem dX12_say_66 : decode cX12_say 66 = .ok (.aload_n 0, 1) := by decide +kernel
theorem dX12_say_67 : decode cX12_say 67 = .ok (.getfield 70, 3) := by decide +kernel
theorem dX12_say_70 : decode cX12_say 70 = .ok (.iload 4, 2) := by decide +kernel
theorem dX12_say_72 : decode cX12_say 72 = .ok (.baload, 1) := by decide +kernel
theorem dX12_say_73 : decode cX12_say 73 = .ok (.bastore, 1) := by decide +kernel
theorem dX12_say_74 : decode cX12_say 74 = .ok (.iinc 4 1, 3) := by decide +kernel
theorem dX12_say_77 : decode cX12_say 77 = .ok (.goto (-26), 3) := by decide +kernel
theorem dX12_say_80 : decode cX12_say 80 = .ok (.aload_n 0, 1) := by decide +kernel
theorem dX12_say_81 : decode cX12_say 81 = .ok (.getfield 162, 3) := by decide +kernel
theorem dX12_say_84 : decode cX12_say 84 = .ok (.ireturn, 1) := by decide +kernel
theorem dX12_wrong_0 : decode cX12_wrong 0 = .ok (.aload_n 0, 1) := by decide +kernel
theorem dX12_wrong_1 : decode cX12_wrong 1 = .ok (.iload_n 1, 1) := by decide +kernel
theorem dX12_wrong_2 : decode cX12_wrong 2 = .ok (.putfield 290, 3) := by decide +kernel
theorem dX12_wrong_5 : decode cX12_wrong 5 = .ok (.iconst (-1), 1) := by decide +kernel
theorem dX12_wrong_6 : decode cX12_wrong 6 = .ok (.ireturn, 1) := by decide +kernel
theorem dX12_two_0 : decode cX12_two 0 = .ok (.aload_n 0, 1) := by decide +kernel
theorem dX12_two_1 : decode cX12_two 1 = .ok (.iload_n 1, 1) := by decide +kernel
theorem dX12_two_2 : decode cX12_two 2 = .ok (.baload, 1) := by decide +kernel
theorem dX12_two_3 : decode cX12_two 3 = .ok (.sipush 255, 3) := by decide +kernel
theorem dX12_two_6 : decode cX12_two 6 = .ok (.iand, 1) := by decide +kernel
theorem dX12_two_7 : decode cX12_two 7 = .ok (.bipush 8, 2) := by decide +kernel
theorem dX12_two_9 : decode cX12_two 9 = .ok (.ishl, 1) := by decide +kernel
theorem dX12_two_10 : decode cX12_two 10 = .ok (.aload_n 0, 1) := by decide +kernel
theorem dX12_two_11 : decode cX12_two 11 = .ok (.iload_n 1, 1) := by decide +kernel
theorem dX12_two_12 : decode cX12_two 12 = .ok (.iconst 1, 1) := by decide +kernel
theorem dX12_two_13 : decode cX12_two 13 = .ok (.iadd, 1) := by decide +kernel
theorem dX12_two_14 : decode cX12_two 14 = .ok (.baload, 1) := by decide +kernel
theorem dX12_two_15 : decode cX12_two 15 = .ok (.sipush 255, 3) := by decide +kernel
theorem dX12_two_18 : decode cX12_two 18 = .ok (.iand, 1) := by decide +kernel
theorem dX12_two_19 : decode cX12_two 19 = .ok (.ior, 1) := by decide +kernel
theorem dX12_two_20 : decode cX12_two 20 = .ok (.ireturn, 1) := by decide +kernel
theorem dX12_four_0 : decode cX12_four 0 = .ok (.aload_n 0, 1) := by decide +kernel
theorem dX12_four_1 : decode cX12_four 1 = .ok (.iload_n 1, 1) := by decide +kernel
theorem dX12_four_2 : decode cX12_four 2 = .ok (.invokestatic 293, 3) := by decide +kernel
theorem dX12_four_5 : decode cX12_four 5 = .ok (.bipush 16, 2) := by decide +kernel
theorem dX12_four_7 : decode cX12_four 7 = .ok (.ishl, 1) := by decide +kernel
theorem dX12_four_8 : decode cX12_four 8 = .ok (.aload_n 0, 1) := by decide +kernel
theorem dX12_four_9 : decode cX12_four 9 = .ok (.iload_n 1, 1) := by decide +kernel
theorem dX12_four_10 : decode cX12_four 10 = .ok (.iconst 2, 1) := by decide +kernel
theorem dX12_four_11 : decode cX12_four 11 = .ok (.iadd, 1) := by decide +kernel
theorem dX12_four_12 : decode cX12_four 12 = .ok (.invokestatic 293, 3) := by decide +kernel
theorem dX12_four_15 : decode cX12_four 15 = .ok (.ior, 1) := by decide +kernel
theorem dX12_four_16 : decode cX12_four 16 = .ok (.ireturn, 1) := by decide +kernel
theorem dX12_isName_0 : decode cX12_isName 0 = .ok (.aload_n 0, 1) := by decide +kernel
theorem dX12_isName_1 : decode cX12_isName 1 = .ok (.iconst 0, 1) := by decide +kernel
theorem dX12_isName_2 : decode cX12_isName 2 = .ok (.putfield 152, 3) := by decide +kernel
theorem dX12_isName_5 : decode cX12_isName 5 = .ok (.iload_n 2, 1) := by decide +kernel
theorem dX12_isName_6 : decode cX12_isName 6 = .ok (.istore 4, 2) := by decide +kernel
theorem dX12_isName_8 : decode cX12_isName 8 = .ok (.iload_n 2, 1) := by decide +kernel
theorem dX12_isName_9 : decode cX12_isName 9 = .ok (.istore 5, 2) := by decide +kernel
theorem dX12_isName_11 : decode cX12_isName 11 = .ok (.iconst (-1), 1) := by decide +kernel
theorem dX12_isName_12 : decode cX12_isName 12 = .ok (.istore 6, 2) := by decide +kernel
theorem dX12_isName_14 : decode cX12_isName 14 = .ok (.iload 5, 2) := by decide +kernel
theorem dX12_isName_16 : decode cX12_isName 16 = .ok (.iload_n 3, 1) := by decide +kernel
theorem dX12_isName_17 : decode cX12_isName 17 = .ok (.if_icmp .lt 17, 3) := by decide +kernel
theorem dX12_isName_20 : decode cX12_isName 20 = .ok (.aload_n 0, 1) := by decide +kernel
theorem dX12_isName_21 : decode cX12_isName 21 = .ok (.iconst 3, 1) := by decide +kernel
theorem dX12_isName_22 : decode cX12_isName 22 = .ok (.invokevirtual 297, 3) := by decide +kernel
theorem dX12_isName_25 : decode cX12_isName 25 = .ok (.ifCond .le 7, 3) := by decide +kernel
theorem dX12_isName_28 : decode cX12_isName 28 = .ok (.iconst 1, 1) := by decide +kernel
theorem dX12_isName_29 : decode cX12_isName 29 = .ok (.goto 4, 3) := by decide +kernel
theorem dX12_isName_32 : decode cX12_isName 32 = .ok (.iconst 0, 1) := by decide +kernel
theorem dX12_isName_33 : decode cX12_isName 33 = .ok (.ireturn, 1) := by decide +kernel
theorem dX12_isName_34 : decode cX12_isName 34 = .ok (.aload_n 1, 1) := by decide +kernel
theorem dX12_isName_35 : decode cX12_isName 35 = .ok (.iload 5, 2) := by decide +kernel
theorem dX12_isName_37 : decode cX12_isName 37 = .ok (.baload, 1) := by decide +kernel
theorem dX12_isName_38 : decode cX12_isName 38 = .ok (.sipush 255, 3) := by decide +kernel
theorem dX12_isName_41 : decode cX12_isName 41 = .ok (.iand, 1) := by decide +kernel
theorem dX12_isName_42 : decode cX12_isName 42 = .ok (.istore 7, 2) := by decide +kernel
theorem dX12_isName_44 : decode cX12_isName 44 = .ok (.iload 7, 2) := by decide +kernel
theorem dX12_isName_46 : decode cX12_isName 46 = .ok (.ifCond .ne 6, 3) := by decide +kernel
theorem dX12_isName_49 : decode cX12_isName 49 = .ok (.goto 230, 3) := by decide +kernel
theorem dX12_isName_52 : decode cX12_isName 52 = .ok (.iload 7, 2) := by decide +kernel
theorem dX12_isName_54 : decode cX12_isName 54 = .ok (.sipush 192, 3) := by decide +kernel
theorem dX12_isName_57 : decode cX12_isName 57 = .ok (.if_icmp .lt 80, 3) := by decide +kernel
theorem dX12_isName_60 : decode cX12_isName 60 = .ok (.iload 5, 2) := by decide +kernel
theorem dX12_isName_62 : decode cX12_isName 62 = .ok (.iconst 1, 1) := by decide +kernel
theorem dX12_isName_63 : decode cX12_isName 63 = .ok (.iadd, 1) := by decide +kernel
theorem dX12_isName_64 : decode cX12_isName 64 = .ok (.iload_n 3, 1) := by decide +kernel
theorem dX12_isName_65 : decode cX12_isName 65 = .ok (.if_icmp .lt 17, 3) := by decide +kernel
theorem dX12_isName_68 : decode cX12_isName 68 = .ok (.aload_n 0, 1) := by decide +kernel
theorem dX12_isName_69 : decode cX12_isName 69 = .ok (.iconst 3, 1) := by decide +kernel
theorem dX12_isName_70 : decode cX12_isName 70 = .ok (.invokevirtual 297, 3) := by decide +kernel
theorem dX12_isName_73 : decode cX12_isName 73 = .ok (.ifCond .le 7, 3) := by decide +kernel
theorem dX12_isName_76 : decode cX12_isName 76 = .ok (.iconst 1, 1) := by decide +kernel
theorem dX12_isName_77 : decode cX12_isName 77 = .ok (.goto 4, 3) := by decide +kernel
theorem dX12_isName_80 : decode cX12_isName 80 = .ok (.iconst 0, 1) := by decide +kernel
theorem dX12_isName_81 : decode cX12_isName 81 = .ok (.ireturn, 1) := by decide +kernel
theorem dX12_isName_82 : decode cX12_isName 82 = .ok (.aload_n 1, 1) := by decide +kernel
theorem dX12_isName_83 : decode cX12_isName 83 = .ok (.iload 5, 2) := by decide +kernel
theorem dX12_isName_85 : decode cX12_isName 85 = .ok (.invokestatic 293, 3) := by decide +kernel
theorem dX12_isName_88 : decode cX12_isName 88 = .ok (.sipush 16383, 3) := by decide +kernel
theorem dX12_isName_91 : decode cX12_isName 91 = .ok (.iand, 1) := by decide +kernel
theorem dX12_isName_92 : decode cX12_isName 92 = .ok (.istore 8, 2) := by decide +kernel
theorem dX12_isName_94 : decode cX12_isName 94 = .ok (.iload 8, 2) := by decide +kernel
theorem dX12_isName_96 : decode cX12_isName 96 = .ok (.iload 4, 2) := by decide +kernel
theorem dX12_isName_98 : decode cX12_isName 98 = .ok (.if_icmp .lt 17, 3) := by decide +kernel
theorem dX12_isName_101 : decode cX12_isName 101 = .ok (.aload_n 0, 1) := by decide +kernel
theorem dX12_isName_102 : decode cX12_isName 102 = .ok (.iconst 2, 1) := by decide +kernel
theorem dX12_isName_103 : decode cX12_isName 103 = .ok (.invokevirtual 297, 3) := by decide +kernel
theorem dX12_isName_106 : decode cX12_isName 106 = .ok (.ifCond .le 7, 3) := by decide +kernel
theorem dX12_isName_109 : decode cX12_isName 109 = .ok (.iconst 1, 1) := by decide +kernel
theorem dX12_isName_110 : decode cX12_isName 110 = .ok (.goto 4, 3) := by decide +kernel
theorem dX12_isName_113 : decode cX12_isName 113 = .ok (.iconst 0, 1) := by decide +kernel
theorem dX12_isName_114 : decode cX12_isName 114 = .ok (.ireturn, 1) := by decide +kernel
theorem dX12_isName_115 : decode cX12_isName 115 = .ok (.iload 6, 2) := by decide +kernel
theorem dX12_isName_117 : decode cX12_isName 117 = .ok (.ifCond .ge 9, 3) := by decide +kernel
theorem dX12_isName_120 : decode cX12_isName 120 = .ok (.iload 5, 2) := by decide +kernel
theorem dX12_isName_122 : decode cX12_isName 122 = .ok (.iconst 2, 1) := by decide +kernel
theorem dX12_isName_123 : decode cX12_isName 123 = .ok (.iadd, 1) := by decide +kernel
theorem dX12_isName_124 : decode cX12_isName 124 = .ok (.istore 6, 2) := by decide +kernel
theorem dX12_isName_126 : decode cX12_isName 126 = .ok (.iload 8, 2) := by decide +kernel
theorem dX12_isName_128 : decode cX12_isName 128 = .ok (.istore 4, 2) := by decide +kernel
theorem dX12_isName_130 : decode cX12_isName 130 = .ok (.iload 8, 2) := by decide +kernel
theorem dX12_isName_132 : decode cX12_isName 132 = .ok (.istore 5, 2) := by decide +kernel
theorem dX12_isName_134 : decode cX12_isName 134 = .ok (.goto (-120), 3) := by decide +kernel
theorem dX12_isName_137 : decode cX12_isName 137 = .ok (.iload 7, 2) := by decide +kernel
theorem dX12_isName_139 : decode cX12_isName 139 = .ok (.bipush 10, 2) := by decide +kernel
theorem dX12_isName_141 : decode cX12_isName 141 = .ok (.if_icmp .gt 12, 3) := by decide +kernel
theorem dX12_isName_144 : decode cX12_isName 144 = .ok (.aload_n 0, 1) := by decide +kernel
theorem dX12_isName_145 : decode cX12_isName 145 = .ok (.getfield 152, 3) := by decide +kernel
theorem dX12_isName_148 : decode cX12_isName 148 = .ok (.bipush 6, 2) := by decide +kernel
theorem dX12_isName_150 : decode cX12_isName 150 = .ok (.if_icmp .ne 17, 3) := by decide +kernel
theorem dX12_isName_153 : decode cX12_isName 153 = .ok (.aload_n 0, 1) := by decide +kernel
theorem dX12_isName_154 : decode cX12_isName 154 = .ok (.iconst 2, 1) := by decide +kernel
theorem dX12_isName_155 : decode cX12_isName 155 = .ok (.invokevirtual 297, 3) := by decide +kernel
theorem dX12_isName_158 : decode cX12_isName 158 = .ok (.ifCond .le 7, 3) := by decide +kernel
theorem dX12_isName_161 : decode cX12_isName 161 = .ok (.iconst 1, 1) := by decide +kernel
theorem dX12_isName_162 : decode cX12_isName 162 = .ok (.goto 4, 3) := by decide +kernel
theorem dX12_isName_165 : decode cX12_isName 165 = .ok (.iconst 0, 1) := by decide +kernel
theorem dX12_isName_166 : decode cX12_isName 166 = .ok (.ireturn, 1) := by decide +kernel
theorem dX12_isName_167 : decode cX12_isName 167 = .ok (.iconst 1, 1) := by decide +kernel
theorem dX12_isName_168 : decode cX12_isName 168 = .ok (.istore 8, 2) := by decide +kernel
theorem dX12_isName_170 : decode cX12_isName 170 = .ok (.iload 8, 2) := by decide +kernel
theorem dX12_isName_172 : decode cX12_isName 172 = .ok (.iload 7, 2) := by decide +kernel
theorem dX12_isName_174 : decode cX12_isName 174 = .ok (.if_icmp .gt 59, 3) := by decide +kernel
theorem dX12_isName_177 : decode cX12_isName 177 = .ok (.iload 5, 2) := by decide +kernel
theorem dX12_isName_179 : decode cX12_isName 179 = .ok (.iload 8, 2) := by decide +kernel
theorem dX12_isName_181 : decode cX12_isName 181 = .ok (.iadd, 1) := by decide +kernel
theorem dX12_isName_182 : decode cX12_isName 182 = .ok (.iload_n 3, 1) := by decide +kernel
theorem dX12_isName_183 : decode cX12_isName 183 = .ok (.if_icmp .lt 17, 3) := by decide +kernel
theorem dX12_isName_186 : decode cX12_isName 186 = .ok (.aload_n 0, 1) := by decide +kernel
theorem dX12_isName_187 : decode cX12_isName 187 = .ok (.iconst 3, 1) := by decide +kernel
theorem dX12_isName_188 : decode cX12_isName 188 = .ok (.invokevirtual 297, 3) := by decide +kernel
theorem dX12_isName_191 : decode cX12_isName 191 = .ok (.ifCond .le 7, 3) := by decide +kernel
theorem dX12_isName_194 : decode cX12_isName 194 = .ok (.iconst 1, 1) := by decide +kernel
theorem dX12_isName_195 : decode cX12_isName 195 = .ok (.goto 4, 3) := by decide +kernel
theorem dX12_isName_198 : decode cX12_isName 198 = .ok (.iconst 0, 1) := by decide +kernel
theorem dX12_isName_199 : decode cX12_isName 199 = .ok (.ireturn, 1) := by decide +kernel
theorem dX12_isName_200 : decode cX12_isName 200 = .ok (.aload_n 1, 1) := by decide +kernel
theorem dX12_isName_201 : decode cX12_isName 201 = .ok (.iload 5, 2) := by decide +kernel
theorem dX12_isName_203 : decode cX12_isName 203 = .ok (.iload 8, 2) := by decide +kernel
theorem dX12_isName_205 : decode cX12_isName 205 = .ok (.iadd, 1) := by decide +kernel
theorem dX12_isName_206 : decode cX12_isName 206 = .ok (.baload, 1) := by decide +kernel
theorem dX12_isName_207 : decode cX12_isName 207 = .ok (.invokestatic 165, 3) := by decide +kernel
theorem dX12_isName_210 : decode cX12_isName 210 = .ok (.ifCond .ne 17, 3) := by decide +kernel
theorem dX12_isName_213 : decode cX12_isName 213 = .ok (.aload_n 0, 1) := by decide +kernel
theorem dX12_isName_214 : decode cX12_isName 214 = .ok (.iconst 2, 1) := by decide +kernel
theorem dX12_isName_215 : decode cX12_isName 215 = .ok (.invokevirtual 297, 3) := by decide +kernel
theorem dX12_isName_218 : decode cX12_isName 218 = .ok (.ifCond .le 7, 3) := by decide +kernel
theorem dX12_isName_221 : decode cX12_isName 221 = .ok (.iconst 1, 1) := by decide +kernel
theorem dX12_isName_222 : decode cX12_isName 222 = .ok (.goto 4, 3) := by decide +kernel
theorem dX12_isName_225 : decode cX12_isName 225 = .ok (.iconst 0, 1) := by decide +kernel
theorem dX12_isName_226 : decode cX12_isName 226 = .ok (.ireturn, 1) := by decide +kernel
theorem dX12_isName_227 : decode cX12_isName 227 = .ok (.iinc 8 1, 3) := by decide +kernel
theorem dX12_isName_230 : decode cX12_isName 230 = .ok (.goto (-60), 3) := by decide +kernel
theorem dX12_isName_233 : decode cX12_isName 233 = .ok (.aload_n 0, 1) := by decide +kernel
theorem dX12_isName_234 : decode cX12_isName 234 = .ok (.getfield 27, 3) := by decide +kernel
theorem dX12_isName_237 : decode cX12_isName 237 = .ok (.aload_n 0, 1) := by decide +kernel
theorem dX12_isName_238 : decode cX12_isName 238 = .ok (.getfield 152, 3) := by decide +kernel
theorem dX12_isName_241 : decode cX12_isName 241 = .ok (.iload 5, 2) := by decide +kernel
theorem dX12_isName_243 : decode cX12_isName 243 = .ok (.iconst 1, 1) := by decide +kernel
theorem dX12_isName_244 : decode cX12_isName 244 = .ok (.iadd, 1) := by decide +kernel
theorem dX12_isName_245 : decode cX12_isName 245 = .ok (.iastore, 1) := by decide +kernel
theorem dX12_isName_246 : decode cX12_isName 246 = .ok (.aload_n 0, 1) := by decide +kernel
theorem dX12_isName_247 : decode cX12_isName 247 = .ok (.getfield 30, 3) := by decide +kernel
theorem dX12_isName_250 : decode cX12_isName 250 = .ok (.aload_n 0, 1) := by decide +kernel
theorem dX12_isName_251 : decode cX12_isName 251 = .ok (.getfield 152, 3) := by decide +kernel
theorem dX12_isName_254 : decode cX12_isName 254 = .ok (.iload 7, 2) := by decide +kernel
theorem dX12_isName_256 : decode cX12_isName 256 = .ok (.iastore, 1) := by decide +kernel
theorem dX12_isName_257 : decode cX12_isName 257 = .ok (.aload_n 0, 1) := by decide +kernel
theorem dX12_isName_258 : decode cX12_isName 258 = .ok (.dup, 1) := by decide +kernel
theorem dX12_isName_259 : decode cX12_isName 259 = .ok (.getfield 152, 3) := by decide +kernel
theorem dX12_isName_262 : decode cX12_isName 262 = .ok (.iconst 1, 1) := by decide +kernel
theorem dX12_isName_263 : decode cX12_isName 263 = .ok (.iadd, 1) := by decide +kernel
theorem dX12_isName_264 : decode cX12_isName 264 = .ok (.putfield 152, 3) := by decide +kernel
theorem dX12_isName_267 : decode cX12_isName 267 = .ok (.iload 5, 2) := by decide +kernel
theorem dX12_isName_269 : decode cX12_isName 269 = .ok (.iconst 1, 1) := by decide +kernel
theorem dX12_isName_270 : decode cX12_isName 270 = .ok (.iload 7, 2) := by decide +kernel
theorem dX12_isName_272 : decode cX12_isName 272 = .ok (.iadd, 1) := by decide +kernel
theorem dX12_isName_273 : decode cX12_isName 273 = .ok (.iadd, 1) := by decide +kernel
theorem dX12_isName_274 : decode cX12_isName 274 = .ok (.istore 5, 2) := by decide +kernel
theorem dX12_isName_276 : decode cX12_isName 276 = .ok (.goto (-262), 3) := by decide +kernel
theorem dX12_isName_279 : decode cX12_isName 279 = .ok (.aload_n 0, 1) := by decide +kernel
theorem dX12_isName_280 : decode cX12_isName 280 = .ok (.iload 6, 2) := by decide +kernel
theorem dX12_isName_282 : decode cX12_isName 282 = .ok (.ifCond .ge 10, 3) := by decide +kernel
theorem dX12_isName_285 : decode cX12_isName 285 = .ok (.iload 5, 2) := by decide +kernel
theorem dX12_isName_287 : decode cX12_isName 287 = .ok (.iconst 1, 1) := by decide +kernel
theorem dX12_isName_288 : decode cX12_isName 288 = .ok (.iadd, 1) := by decide +kernel
theorem dX12_isName_289 : decode cX12_isName 289 = .ok (.goto 5, 3) := by decide +kernel
theorem dX12_isName_292 : decode cX12_isName 292 = .ok (.iload 6, 2) := by decide +kernel
theorem dX12_isName_294 : decode cX12_isName 294 = .ok (.putfield 300, 3) := by decide +kernel
theorem dX12_isName_297 : decode cX12_isName 297 = .ok (.iconst 1, 1) := by decide +kernel
theorem dX12_isName_298 : decode cX12_isName 298 = .ok (.ireturn, 1) := by decide +kernel
theorem dX12_readName_0 : decode cX12_readName 0 = .ok (.aload_n 0, 1) := by decide +kernel
theorem dX12_readName_1 : decode cX12_readName 1 = .ok (.aload_n 1, 1) := by decide +kernel
theorem dX12_readName_2 : decode cX12_readName 2 = .ok (.aload_n 0, 1) := by decide +kernel
theorem dX12_readName_3 : decode cX12_readName 3 = .ok (.getfield 300, 3) := by decide +kernel
theorem dX12_readName_6 : decode cX12_readName 6 = .ok (.iload_n 2, 1) := by decide +kernel
theorem dX12_readName_7 : decode cX12_readName 7 = .ok (.invokevirtual 303, 3) := by decide +kernel
theorem dX12_readName_10 : decode cX12_readName 10 = .ok (.ifCond .ne 5, 3) := by decide +kernel
theorem dX12_readName_13 : decode cX12_readName 13 = .ok (.iconst (-1), 1) := by decide +kernel
theorem dX12_readName_14 : decode cX12_readName 14 = .ok (.ireturn, 1) := by decide +kernel
theorem dX12_readName_15 : decode cX12_readName 15 = .ok (.aload_n 0, 1) := by decide +kernel
theorem dX12_readName_16 : decode cX12_readName 16 = .ok (.aload_n 1, 1) := by decide +kernel
theorem dX12_readName_17 : decode cX12_readName 17 = .ok (.invokevirtual 184, 3) := by decide +kernel
theorem dX12_readName_20 : decode cX12_readName 20 = .ok (.istore_n 3, 1) := by decide +kernel
theorem dX12_readName_21 : decode cX12_readName 21 = .ok (.iload_n 3, 1) := by decide +kernel
theorem dX12_readName_22 : decode cX12_readName 22 = .ok (.ifCond .ge 12, 3) := by decide +kernel
theorem dX12_readName_25 : decode cX12_readName 25 = .ok (.aload_n 0, 1) := by decide +kernel
theorem dX12_readName_26 : decode cX12_readName 26 = .ok (.bipush 6, 2) := by decide +kernel
theorem dX12_readName_28 : decode cX12_readName 28 = .ok (.invokevirtual 297, 3) := by decide +kernel
theorem dX12_readName_31 : decode cX12_readName 31 = .ok (.goto 4, 3) := by decide +kernel
theorem dX12_readName_34 : decode cX12_readName 34 = .ok (.iload_n 3, 1) := by decide +kernel
theorem dX12_readName_35 : decode cX12_readName 35 = .ok (.ireturn, 1) := by decide +kernel
theorem dX12_readInner_0 : decode cX12_readInner 0 = .ok (.aload_n 0, 1) := by decide +kernel
theorem dX12_readInner_1 : decode cX12_readInner 1 = .ok (.aload_n 1, 1) := by decide +kernel
theorem dX12_readInner_2 : decode cX12_readInner 2 = .ok (.iload_n 2, 1) := by decide +kernel
theorem dX12_readInner_3 : decode cX12_readInner 3 = .ok (.invokevirtual 307, 3) := by decide +kernel
theorem dX12_readInner_6 : decode cX12_readInner 6 = .ok (.istore_n 3, 1) := by decide +kernel
theorem dX12_readInner_7 : decode cX12_readInner 7 = .ok (.iload_n 3, 1) := by decide +kernel
theorem dX12_readInner_8 : decode cX12_readInner 8 = .ok (.ifCond .ge 17, 3) := by decide +kernel
theorem dX12_readInner_11 : decode cX12_readInner 11 = .ok (.aload_n 0, 1) := by decide +kernel
theorem dX12_readInner_12 : decode cX12_readInner 12 = .ok (.getfield 290, 3) := by decide +kernel
theorem dX12_readInner_15 : decode cX12_readInner 15 = .ok (.bipush 6, 2) := by decide +kernel
theorem dX12_readInner_17 : decode cX12_readInner 17 = .ok (.if_icmp .eq 8, 3) := by decide +kernel
theorem dX12_readInner_20 : decode cX12_readInner 20 = .ok (.aload_n 0, 1) := by decide +kernel
theorem dX12_readInner_21 : decode cX12_readInner 21 = .ok (.iconst 4, 1) := by decide +kernel
theorem dX12_readInner_22 : decode cX12_readInner 22 = .ok (.putfield 290, 3) := by decide +kernel
theorem dX12_readInner_25 : decode cX12_readInner 25 = .ok (.iload_n 3, 1) := by decide +kernel
theorem dX12_readInner_26 : decode cX12_readInner 26 = .ok (.ireturn, 1) := by decide +kernel
theorem dX12_readData_0 : decode cX12_readData 0 = .ok (.aload_n 0, 1) := by decide +kernel
theorem dX12_readData_1 : decode cX12_readData 1 = .ok (.getfield 300, 3) := by decide +kernel
theorem dX12_readData_4 : decode cX12_readData 4 = .ok (.istore 5, 2) := by decide +kernel
theorem dX12_readData_6 : decode cX12_readData 6 = .ok (.aload_n 0, 1) := by decide +kernel
theorem dX12_readData_7 : decode cX12_readData 7 = .ok (.getfield 300, 3) := by decide +kernel
theorem dX12_readData_10 : decode cX12_readData 10 = .ok (.iload 4, 2) := by decide +kernel
theorem dX12_readData_12 : decode cX12_readData 12 = .ok (.iadd, 1) := by decide +kernel
theorem dX12_readData_13 : decode cX12_readData 13 = .ok (.iload_n 2, 1) := by decide +kernel
theorem dX12_readData_14 : decode cX12_readData 14 = .ok (.if_icmp .le 9, 3) := by decide +kernel
theorem dX12_readData_17 : decode cX12_readData 17 = .ok (.aload_n 0, 1) := by decide +kernel
theorem dX12_readData_18 : decode cX12_readData 18 = .ok (.iconst 3, 1) := by decide +kernel
theorem dX12_readData_19 : decode cX12_readData 19 = .ok (.invokevirtual 297, 3) := by decide +kernel
theorem dX12_readData_22 : decode cX12_readData 22 = .ok (.ireturn, 1) := by decide +kernel
theorem dX12_readData_23 : decode cX12_readData 23 = .ok (.iload_n 3, 1) := by decide +kernel
theorem dX12_readData_24 : decode cX12_readData 24 = .ok (.iconst 1, 1) := by decide +kernel
theorem dX12_readData_25 : decode cX12_readData 25 = .ok (.if_icmp .ne 9, 3) := by decide +kernel
theorem dX12_readData_28 : decode cX12_readData 28 = .ok (.iload 4, 2) := by decide +kernel
theorem dX12_readData_30 : decode cX12_readData 30 = .ok (.iconst 4, 1) := by decide +kernel
theorem dX12_readData_31 : decode cX12_readData 31 = .ok (.if_icmp .ne 15, 3) := by decide +kernel
theorem dX12_readData_34 : decode cX12_readData 34 = .ok (.iload_n 3, 1) := by decide +kernel
theorem dX12_readData_35 : decode cX12_readData 35 = .ok (.bipush 16, 2) := by decide +kernel
theorem dX12_readData_37 : decode cX12_readData 37 = .ok (.if_icmp .ne 15, 3) := by decide +kernel
theorem dX12_readData_40 : decode cX12_readData 40 = .ok (.iload 4, 2) := by decide +kernel
theorem dX12_readData_42 : decode cX12_readData 42 = .ok (.iconst 5, 1) := by decide +kernel
theorem dX12_readData_43 : decode cX12_readData 43 = .ok (.if_icmp .eq 9, 3) := by decide +kernel
theorem dX12_readData_46 : decode cX12_readData 46 = .ok (.aload_n 0, 1) := by decide +kernel
theorem dX12_readData_47 : decode cX12_readData 47 = .ok (.iconst 4, 1) := by decide +kernel
theorem dX12_readData_48 : decode cX12_readData 48 = .ok (.invokevirtual 297, 3) := by decide +kernel
theorem dX12_readData_51 : decode cX12_readData 51 = .ok (.ireturn, 1) := by decide +kernel
theorem dX12_readData_52 : decode cX12_readData 52 = .ok (.iload_n 3, 1) := by decide +kernel
theorem dX12_readData_53 : decode cX12_readData 53 = .ok (.iconst 1, 1) := by decide +kernel
theorem dX12_readData_54 : decode cX12_readData 54 = .ok (.if_icmp .ne 20, 3) := by decide +kernel
theorem dX12_readData_57 : decode cX12_readData 57 = .ok (.aload_n 0, 1) := by decide +kernel
theorem dX12_readData_58 : decode cX12_readData 58 = .ok (.dup, 1) := by decide +kernel
theorem dX12_readData_59 : decode cX12_readData 59 = .ok (.getfield 300, 3) := by decide +kernel
theorem dX12_readData_62 : decode cX12_readData 62 = .ok (.iconst 4, 1) := by decide +kernel
theorem dX12_readData_63 : decode cX12_readData 63 = .ok (.iadd, 1) := by decide +kernel
theorem dX12_readData_64 : decode cX12_readData 64 = .ok (.putfield 300, 3) := by decide +kernel
theorem dX12_readData_67 : decode cX12_readData 67 = .ok (.aload_n 1, 1) := by decide +kernel
theorem dX12_readData_68 : decode cX12_readData 68 = .ok (.iload 5, 2) := by decide +kernel
theorem dX12_readData_70 : decode cX12_readData 70 = .ok (.invokestatic 310, 3) := by decide +kernel
theorem dX12_readData_73 : decode cX12_readData 73 = .ok (.ireturn, 1) := by decide +kernel
theorem dX12_readData_74 : decode cX12_readData 74 = .ok (.iload_n 3, 1) := by decide +kernel
theorem dX12_readData_75 : decode cX12_readData 75 = .ok (.bipush 16, 2) := by decide +kernel
theorem dX12_readData_77 : decode cX12_readData 77 = .ok (.if_icmp .ne 36, 3) := by decide +kernel
theorem dX12_readData_80 : decode cX12_readData 80 = .ok (.aload_n 1, 1) := by decide +kernel
theorem dX12_readData_81 : decode cX12_readData 81 = .ok (.iload 5, 2) := by decide +kernel
theorem dX12_readData_83 : decode cX12_readData 83 = .ok (.baload, 1) := by decide +kernel
theorem dX12_readData_84 : decode cX12_readData 84 = .ok (.iconst 4, 1) := by decide +kernel
theorem dX12_readData_85 : decode cX12_readData 85 = .ok (.if_icmp .eq 9, 3) := by decide +kernel
theorem dX12_readData_88 : decode cX12_readData 88 = .ok (.aload_n 0, 1) := by decide +kernel
theorem dX12_readData_89 : decode cX12_readData 89 = .ok (.iconst 4, 1) := by decide +kernel
theorem dX12_readData_90 : decode cX12_readData 90 = .ok (.invokevirtual 297, 3) := by decide +kernel
theorem dX12_readData_93 : decode cX12_readData 93 = .ok (.ireturn, 1) := by decide +kernel
theorem dX12_readData_94 : decode cX12_readData 94 = .ok (.aload_n 0, 1) := by decide +kernel
theorem dX12_readData_95 : decode cX12_readData 95 = .ok (.dup, 1) := by decide +kernel
theorem dX12_readData_96 : decode cX12_readData 96 = .ok (.getfield 300, 3) := by decide +kernel
theorem dX12_readData_99 : decode cX12_readData 99 = .ok (.iconst 5, 1) := by decide +kernel
theorem dX12_readData_100 : decode cX12_readData 100 = .ok (.iadd, 1) := by decide +kernel
theorem dX12_readData_101 : decode cX12_readData 101 = .ok (.putfield 300, 3) := by decide +kernel
theorem dX12_readData_104 : decode cX12_readData 104 = .ok (.aload_n 1, 1) := by decide +kernel
theorem dX12_readData_105 : decode cX12_readData 105 = .ok (.iload 5, 2) := by decide +kernel
theorem dX12_readData_107 : decode cX12_readData 107 = .ok (.iconst 1, 1) := by decide +kernel
theorem dX12_readData_108 : decode cX12_readData 108 = .ok (.iadd, 1) := by decide +kernel
theorem dX12_readData_109 : decode cX12_readData 109 = .ok (.invokestatic 310, 3) := by decide +kernel
theorem dX12_readData_112 : decode cX12_readData 112 = .ok (.ireturn, 1) := by decide +kernel
theorem dX12_readData_113 : decode cX12_readData 113 = .ok (.iload_n 3, 1) := by decide +kernel
theorem dX12_readData_114 : decode cX12_readData 114 = .ok (.iconst 2, 1) := by decide +kernel
theorem dX12_readData_115 : decode cX12_readData 115 = .ok (.if_icmp .eq 27, 3) := by decide +kernel
theorem dX12_readData_118 : decode cX12_readData 118 = .ok (.iload_n 3, 1) := by decide +kernel
theorem dX12_readData_119 : decode cX12_readData 119 = .ok (.iconst 5, 1) := by decide +kernel
theorem dX12_readData_120 : decode cX12_readData 120 = .ok (.if_icmp .eq 22, 3) := by decide +kernel
theorem dX12_readData_123 : decode cX12_readData 123 = .ok (.iload_n 3, 1) := by decide +kernel
theorem dX12_readData_124 : decode cX12_readData 124 = .ok (.bipush 6, 2) := by decide +kernel
theorem dX12_readData_126 : decode cX12_readData 126 = .ok (.if_icmp .eq 16, 3) := by decide +kernel
theorem dX12_readData_129 : decode cX12_readData 129 = .ok (.aload_n 0, 1) := by decide +kernel
theorem dX12_readData_130 : decode cX12_readData 130 = .ok (.dup, 1) := by decide +kernel
theorem dX12_readData_131 : decode cX12_readData 131 = .ok (.getfield 300, 3) := by decide +kernel
theorem dX12_readData_134 : decode cX12_readData 134 = .ok (.iload 4, 2) := by decide +kernel
theorem dX12_readData_136 : decode cX12_readData 136 = .ok (.iadd, 1) := by decide +kernel
theorem dX12_readData_137 : decode cX12_readData 137 = .ok (.putfield 300, 3) := by decide +kernel
theorem dX12_readData_140 : decode cX12_readData 140 = .ok (.iconst 0, 1) := by decide +kernel
theorem dX12_readData_141 : decode cX12_readData 141 = .ok (.ireturn, 1) := by decide +kernel
theorem dX12_readData_142 : decode cX12_readData 142 = .ok (.aload_n 0, 1) := by decide +kernel
theorem dX12_readData_143 : decode cX12_readData 143 = .ok (.aload_n 1, 1) := by decide +kernel
theorem dX12_readData_144 : decode cX12_readData 144 = .ok (.iload_n 2, 1) := by decide +kernel
theorem dX12_readData_145 : decode cX12_readData 145 = .ok (.invokevirtual 313, 3) := by decide +kernel
theorem dX12_readData_148 : decode cX12_readData 148 = .ok (.istore 6, 2) := by decide +kernel
theorem dX12_readData_150 : decode cX12_readData 150 = .ok (.aload_n 0, 1) := by decide +kernel
theorem dX12_readData_151 : decode cX12_readData 151 = .ok (.getfield 290, 3) := by decide +kernel
theorem dX12_readData_154 : decode cX12_readData 154 = .ok (.ifCond .ne 28, 3) := by decide +kernel
theorem dX12_readData_157 : decode cX12_readData 157 = .ok (.iload_n 3, 1) := by decide +kernel
theorem dX12_readData_158 : decode cX12_readData 158 = .ok (.bipush 6, 2) := by decide +kernel
theorem dX12_readData_160 : decode cX12_readData 160 = .ok (.if_icmp .ne 22, 3) := by decide +kernel
theorem dX12_readData_163 : decode cX12_readData 163 = .ok (.aload_n 0, 1) := by decide +kernel
theorem dX12_readData_164 : decode cX12_readData 164 = .ok (.aload_n 1, 1) := by decide +kernel
theorem dX12_readData_165 : decode cX12_readData 165 = .ok (.iload_n 2, 1) := by decide +kernel
theorem dX12_readData_166 : decode cX12_readData 166 = .ok (.invokevirtual 313, 3) := by decide +kernel
theorem dX12_readData_169 : decode cX12_readData 169 = .ok (.istore 7, 2) := by decide +kernel
theorem dX12_readData_171 : decode cX12_readData 171 = .ok (.aload_n 0, 1) := by decide +kernel
theorem dX12_readData_172 : decode cX12_readData 172 = .ok (.dup, 1) := by decide +kernel
theorem dX12_readData_173 : decode cX12_readData 173 = .ok (.getfield 300, 3) := by decide +kernel
theorem dX12_readData_176 : decode cX12_readData 176 = .ok (.bipush 20, 2) := by decide +kernel
theorem dX12_readData_178 : decode cX12_readData 178 = .ok (.iadd, 1) := by decide +kernel
theorem dX12_readData_179 : decode cX12_readData 179 = .ok (.putfield 300, 3) := by decide +kernel
theorem dX12_readData_182 : decode cX12_readData 182 = .ok (.aload_n 0, 1) := by decide +kernel
theorem dX12_readData_183 : decode cX12_readData 183 = .ok (.getfield 290, 3) := by decide +kernel
theorem dX12_readData_186 : decode cX12_readData 186 = .ok (.ifCond .le 5, 3) := by decide +kernel
theorem dX12_readData_189 : decode cX12_readData 189 = .ok (.iconst (-1), 1) := by decide +kernel
theorem dX12_readData_190 : decode cX12_readData 190 = .ok (.ireturn, 1) := by decide +kernel
theorem dX12_readData_191 : decode cX12_readData 191 = .ok (.aload_n 0, 1) := by decide +kernel
theorem dX12_readData_192 : decode cX12_readData 192 = .ok (.getfield 300, 3) := by decide +kernel
theorem dX12_readData_195 : decode cX12_readData 195 = .ok (.iload 5, 2) := by decide +kernel
theorem dX12_readData_197 : decode cX12_readData 197 = .ok (.iload 4, 2) := by decide +kernel
theorem dX12_readData_199 : decode cX12_readData 199 = .ok (.iadd, 1) := by decide +kernel
theorem dX12_readData_200 : decode cX12_readData 200 = .ok (.if_icmp .eq 9, 3) := by decide +kernel
theorem dX12_readData_203 : decode cX12_readData 203 = .ok (.aload_n 0, 1) := by decide +kernel
theorem dX12_readData_204 : decode cX12_readData 204 = .ok (.iconst 4, 1) := by decide +kernel
theorem dX12_readData_205 : decode cX12_readData 205 = .ok (.invokevirtual 297, 3) := by decide +kernel
theorem dX12_readData_208 : decode cX12_readData 208 = .ok (.ireturn, 1) := by decide +kernel
theorem dX12_readData_209 : decode cX12_readData 209 = .ok (.iload_n 3, 1) := by decide +kernel
theorem dX12_readData_210 : decode cX12_readData 210 = .ok (.bipush 6, 2) := by decide +kernel
theorem dX12_readData_212 : decode cX12_readData 212 = .ok (.if_icmp .ne 16, 3) := by decide +kernel
theorem dX12_readData_215 : decode cX12_readData 215 = .ok (.aload_n 1, 1) := by decide +kernel
theorem dX12_readData_216 : decode cX12_readData 216 = .ok (.aload_n 0, 1) := by decide +kernel
theorem dX12_readData_217 : decode cX12_readData 217 = .ok (.getfield 300, 3) := by decide +kernel
theorem dX12_readData_220 : decode cX12_readData 220 = .ok (.iconst 4, 1) := by decide +kernel
theorem dX12_readData_221 : decode cX12_readData 221 = .ok (.isub, 1) := by decide +kernel
theorem dX12_readData_222 : decode cX12_readData 222 = .ok (.invokestatic 310, 3) := by decide +kernel
theorem dX12_readData_225 : decode cX12_readData 225 = .ok (.goto 5, 3) := by decide +kernel
theorem dX12_readData_228 : decode cX12_readData 228 = .ok (.iload 6, 2) := by decide +kernel
theorem dX12_readData_230 : decode cX12_readData 230 = .ok (.ireturn, 1) := by decide +kernel
theorem dX12_readRecord_0 : decode cX12_readRecord 0 = .ok (.aload_n 0, 1) := by decide +kernel
theorem dX12_readRecord_1 : decode cX12_readRecord 1 = .ok (.aload_n 1, 1) := by decide +kernel
theorem dX12_readRecord_2 : decode cX12_readRecord 2 = .ok (.iload_n 2, 1) := by decide +kernel
theorem dX12_readRecord_3 : decode cX12_readRecord 3 = .ok (.invokevirtual 307, 3) := by decide +kernel
theorem dX12_readRecord_6 : decode cX12_readRecord 6 = .ok (.istore 4, 2) := by decide +kernel
theorem dX12_readRecord_8 : decode cX12_readRecord 8 = .ok (.aload_n 0, 1) := by decide +kernel
theorem dX12_readRecord_9 : decode cX12_readRecord 9 = .ok (.getfield 290, 3) := by decide +kernel
theorem dX12_readRecord_12 : decode cX12_readRecord 12 = .ok (.ifCond .le 4, 3) := by decide +kernel
theorem dX12_readRecord_15 : decode cX12_readRecord 15 = .ok (.return_, 1) := by decide +kernel
theorem dX12_readRecord_16 : decode cX12_readRecord 16 = .ok (.aload_n 0, 1) := by decide +kernel
theorem dX12_readRecord_17 : decode cX12_readRecord 17 = .ok (.getfield 300, 3) := by decide +kernel
theorem dX12_readRecord_20 : decode cX12_readRecord 20 = .ok (.bipush 10, 2) := by decide +kernel
theorem dX12_readRecord_22 : decode cX12_readRecord 22 = .ok (.iadd, 1) := by decide +kernel
theorem dX12_readRecord_23 : decode cX12_readRecord 23 = .ok (.iload_n 2, 1) := by decide +kernel
theorem dX12_readRecord_24 : decode cX12_readRecord 24 = .ok (.if_icmp .le 9, 3) := by decide +kernel
theorem dX12_readRecord_27 : decode cX12_readRecord 27 = .ok (.aload_n 0, 1) := by decide +kernel
theorem dX12_readRecord_28 : decode cX12_readRecord 28 = .ok (.iconst 3, 1) := by decide +kernel
theorem dX12_readRecord_29 : decode cX12_readRecord 29 = .ok (.putfield 290, 3) := by decide +kernel
theorem dX12_readRecord_32 : decode cX12_readRecord 32 = .ok (.return_, 1) := by decide +kernel
theorem dX12_readRecord_33 : decode cX12_readRecord 33 = .ok (.aload_n 1, 1) := by decide +kernel
theorem dX12_readRecord_34 : decode cX12_readRecord 34 = .ok (.aload_n 0, 1) := by decide +kernel
theorem dX12_readRecord_35 : decode cX12_readRecord 35 = .ok (.getfield 300, 3) := by decide +kernel
theorem dX12_readRecord_38 : decode cX12_readRecord 38 = .ok (.invokestatic 293, 3) := by decide +kernel
theorem dX12_readRecord_41 : decode cX12_readRecord 41 = .ok (.istore 5, 2) := by decide +kernel
theorem dX12_readRecord_43 : decode cX12_readRecord 43 = .ok (.aload_n 1, 1) := by decide +kernel
theorem dX12_readRecord_44 : decode cX12_readRecord 44 = .ok (.aload_n 0, 1) := by decide +kernel
theorem dX12_readRecord_45 : decode cX12_readRecord 45 = .ok (.getfield 300, 3) := by decide +kernel
theorem dX12_readRecord_48 : decode cX12_readRecord 48 = .ok (.iconst 2, 1) := by decide +kernel
theorem dX12_readRecord_49 : decode cX12_readRecord 49 = .ok (.iadd, 1) := by decide +kernel
theorem dX12_readRecord_50 : decode cX12_readRecord 50 = .ok (.invokestatic 293, 3) := by decide +kernel
theorem dX12_readRecord_53 : decode cX12_readRecord 53 = .ok (.istore 6, 2) := by decide +kernel
theorem dX12_readRecord_55 : decode cX12_readRecord 55 = .ok (.aload_n 1, 1) := by decide +kernel
theorem dX12_readRecord_56 : decode cX12_readRecord 56 = .ok (.aload_n 0, 1) := by decide +kernel
theorem dX12_readRecord_57 : decode cX12_readRecord 57 = .ok (.getfield 300, 3) := by decide +kernel
theorem dX12_readRecord_60 : decode cX12_readRecord 60 = .ok (.iconst 4, 1) := by decide +kernel
theorem dX12_readRecord_61 : decode cX12_readRecord 61 = .ok (.iadd, 1) := by decide +kernel
theorem dX12_readRecord_62 : decode cX12_readRecord 62 = .ok (.invokestatic 310, 3) := by decide +kernel
theorem dX12_readRecord_65 : decode cX12_readRecord 65 = .ok (.istore 7, 2) := by decide +kernel
theorem dX12_readRecord_67 : decode cX12_readRecord 67 = .ok (.aload_n 1, 1) := by decide +kernel
theorem dX12_readRecord_68 : decode cX12_readRecord 68 = .ok (.aload_n 0, 1) := by decide +kernel
theorem dX12_readRecord_69 : decode cX12_readRecord 69 = .ok (.getfield 300, 3) := by decide +kernel
theorem dX12_readRecord_72 : decode cX12_readRecord 72 = .ok (.bipush 8, 2) := by decide +kernel
theorem dX12_readRecord_74 : decode cX12_readRecord 74 = .ok (.iadd, 1) := by decide +kernel
theorem dX12_readRecord_75 : decode cX12_readRecord 75 = .ok (.invokestatic 293, 3) := by decide +kernel
theorem dX12_readRecord_78 : decode cX12_readRecord 78 = .ok (.istore 8, 2) := by decide +kernel
theorem dX12_readRecord_80 : decode cX12_readRecord 80 = .ok (.aload_n 0, 1) := by decide +kernel
theorem dX12_readRecord_81 : decode cX12_readRecord 81 = .ok (.dup, 1) := by decide +kernel
theorem dX12_readRecord_82 : decode cX12_readRecord 82 = .ok (.getfield 300, 3) := by decide +kernel
theorem dX12_readRecord_85 : decode cX12_readRecord 85 = .ok (.bipush 10, 2) := by decide +kernel
theorem dX12_readRecord_87 : decode cX12_readRecord 87 = .ok (.iadd, 1) := by decide +kernel
theorem dX12_readRecord_88 : decode cX12_readRecord 88 = .ok (.putfield 300, 3) := by decide +kernel
theorem dX12_readRecord_91 : decode cX12_readRecord 91 = .ok (.aload_n 0, 1) := by decide +kernel
theorem dX12_readRecord_92 : decode cX12_readRecord 92 = .ok (.aload_n 1, 1) := by decide +kernel
theorem dX12_readRecord_93 : decode cX12_readRecord 93 = .ok (.iload_n 2, 1) := by decide +kernel
theorem dX12_readRecord_94 : decode cX12_readRecord 94 = .ok (.iload 5, 2) := by decide +kernel
theorem dX12_readRecord_96 : decode cX12_readRecord 96 = .ok (.iload 8, 2) := by decide +kernel
theorem dX12_readRecord_98 : decode cX12_readRecord 98 = .ok (.invokevirtual 316, 3) := by decide +kernel
theorem dX12_readRecord_101 : decode cX12_readRecord 101 = .ok (.istore 9, 2) := by decide +kernel
theorem dX12_readRecord_103 : decode cX12_readRecord 103 = .ok (.aload_n 0, 1) := by decide +kernel
theorem dX12_readRecord_104 : decode cX12_readRecord 104 = .ok (.getfield 290, 3) := by decide +kernel
theorem dX12_readRecord_107 : decode cX12_readRecord 107 = .ok (.ifCond .gt 24, 3) := by decide +kernel
theorem dX12_readRecord_110 : decode cX12_readRecord 110 = .ok (.iload 6, 2) := by decide +kernel
theorem dX12_readRecord_112 : decode cX12_readRecord 112 = .ok (.iconst 1, 1) := by decide +kernel
theorem dX12_readRecord_113 : decode cX12_readRecord 113 = .ok (.if_icmp .ne 18, 3) := by decide +kernel
theorem dX12_readRecord_116 : decode cX12_readRecord 116 = .ok (.iload 5, 2) := by decide +kernel
theorem dX12_readRecord_118 : decode cX12_readRecord 118 = .ok (.invokestatic 214, 3) := by decide +kernel
theorem dX12_readRecord_121 : decode cX12_readRecord 121 = .ok (.ifCond .ne 11, 3) := by decide +kernel
theorem dX12_readRecord_124 : decode cX12_readRecord 124 = .ok (.iload 5, 2) := by decide +kernel
theorem dX12_readRecord_126 : decode cX12_readRecord 126 = .ok (.bipush 6, 2) := by decide +kernel
theorem dX12_readRecord_128 : decode cX12_readRecord 128 = .ok (.if_icmp .eq 4, 3) := by decide +kernel
theorem dX12_readRecord_131 : decode cX12_readRecord 131 = .ok (.return_, 1) := by decide +kernel
theorem dX12_readRecord_132 : decode cX12_readRecord 132 = .ok (.aload_n 0, 1) := by decide +kernel
theorem dX12_readRecord_133 : decode cX12_readRecord 133 = .ok (.getfield 79, 3) := by decide +kernel
theorem dX12_readRecord_136 : decode cX12_readRecord 136 = .ok (.aload_n 0, 1) := by decide +kernel
theorem dX12_readRecord_137 : decode cX12_readRecord 137 = .ok (.getfield 320, 3) := by decide +kernel
theorem dX12_readRecord_140 : decode cX12_readRecord 140 = .ok (.iload_n 3, 1) := by decide +kernel
theorem dX12_readRecord_141 : decode cX12_readRecord 141 = .ok (.iastore, 1) := by decide +kernel
theorem dX12_readRecord_142 : decode cX12_readRecord 142 = .ok (.aload_n 0, 1) := by decide +kernel
theorem dX12_readRecord_143 : decode cX12_readRecord 143 = .ok (.getfield 82, 3) := by decide +kernel
theorem dX12_readRecord_146 : decode cX12_readRecord 146 = .ok (.aload_n 0, 1) := by decide +kernel
theorem dX12_readRecord_147 : decode cX12_readRecord 147 = .ok (.getfield 320, 3) := by decide +kernel
theorem dX12_readRecord_150 : decode cX12_readRecord 150 = .ok (.iload 4, 2) := by decide +kernel
theorem dX12_readRecord_152 : decode cX12_readRecord 152 = .ok (.iastore, 1) := by decide +kernel
theorem dX12_readRecord_153 : decode cX12_readRecord 153 = .ok (.aload_n 0, 1) := by decide +kernel
theorem dX12_readRecord_154 : decode cX12_readRecord 154 = .ok (.getfield 85, 3) := by decide +kernel
theorem dX12_readRecord_157 : decode cX12_readRecord 157 = .ok (.aload_n 0, 1) := by decide +kernel
theorem dX12_readRecord_158 : decode cX12_readRecord 158 = .ok (.getfield 320, 3) := by decide +kernel
theorem dX12_readRecord_161 : decode cX12_readRecord 161 = .ok (.iload 5, 2) := by decide +kernel
theorem dX12_readRecord_163 : decode cX12_readRecord 163 = .ok (.iastore, 1) := by decide +kernel
theorem dX12_readRecord_164 : decode cX12_readRecord 164 = .ok (.aload_n 0, 1) := by decide +kernel
theorem dX12_readRecord_165 : decode cX12_readRecord 165 = .ok (.getfield 88, 3) := by decide +kernel
theorem dX12_readRecord_168 : decode cX12_readRecord 168 = .ok (.aload_n 0, 1) := by decide +kernel
theorem dX12_readRecord_169 : decode cX12_readRecord 169 = .ok (.getfield 320, 3) := by decide +kernel
theorem dX12_readRecord_172 : decode cX12_readRecord 172 = .ok (.iload 9, 2) := by decide +kernel
theorem dX12_readRecord_174 : decode cX12_readRecord 174 = .ok (.iastore, 1) := by decide +kernel
theorem dX12_readRecord_175 : decode cX12_readRecord 175 = .ok (.aload_n 0, 1) := by decide +kernel
theorem dX12_readRecord_176 : decode cX12_readRecord 176 = .ok (.getfield 91, 3) := by decide +kernel
theorem dX12_readRecord_179 : decode cX12_readRecord 179 = .ok (.aload_n 0, 1) := by decide +kernel
theorem dX12_readRecord_180 : decode cX12_readRecord 180 = .ok (.getfield 320, 3) := by decide +kernel
theorem dX12_readRecord_183 : decode cX12_readRecord 183 = .ok (.iload 7, 2) := by decide +kernel
theorem dX12_readRecord_185 : decode cX12_readRecord 185 = .ok (.iastore, 1) := by decide +kernel
theorem dX12_readRecord_186 : decode cX12_readRecord 186 = .ok (.aload_n 0, 1) := by decide +kernel
theorem dX12_readRecord_187 : decode cX12_readRecord 187 = .ok (.dup, 1) := by decide +kernel
theorem dX12_readRecord_188 : decode cX12_readRecord 188 = .ok (.getfield 320, 3) := by decide +kernel
theorem dX12_readRecord_191 : decode cX12_readRecord 191 = .ok (.iconst 1, 1) := by decide +kernel
theorem dX12_readRecord_192 : decode cX12_readRecord 192 = .ok (.iadd, 1) := by decide +kernel
theorem dX12_readRecord_193 : decode cX12_readRecord 193 = .ok (.putfield 320, 3) := by decide +kernel
theorem dX12_readRecord_196 : decode cX12_readRecord 196 = .ok (.return_, 1) := by decide +kernel
theorem dX12_reads_0 : decode cX12_reads 0 = .ok (.aload_n 0, 1) := by decide +kernel
theorem dX12_reads_1 : decode cX12_reads 1 = .ok (.iconst 0, 1) := by decide +kernel
theorem dX12_reads_2 : decode cX12_reads 2 = .ok (.putfield 290, 3) := by decide +kernel
theorem dX12_reads_5 : decode cX12_reads 5 = .ok (.aload_n 0, 1) := by decide +kernel
theorem dX12_reads_6 : decode cX12_reads 6 = .ok (.iconst 0, 1) := by decide +kernel
theorem dX12_reads_7 : decode cX12_reads 7 = .ok (.putfield 320, 3) := by decide +kernel
theorem dX12_reads_10 : decode cX12_reads 10 = .ok (.iload_n 2, 1) := by decide +kernel
theorem dX12_reads_11 : decode cX12_reads 11 = .ok (.bipush 12, 2) := by decide +kernel
theorem dX12_reads_13 : decode cX12_reads 13 = .ok (.if_icmp .lt 12, 3) := by decide +kernel
theorem dX12_reads_16 : decode cX12_reads 16 = .ok (.aload_n 1, 1) := by decide +kernel
theorem dX12_reads_17 : decode cX12_reads 17 = .ok (.iconst 4, 1) := by decide +kernel
theorem dX12_reads_18 : decode cX12_reads 18 = .ok (.invokestatic 293, 3) := by decide +kernel
theorem dX12_reads_21 : decode cX12_reads 21 = .ok (.iconst 1, 1) := by decide +kernel
theorem dX12_reads_22 : decode cX12_reads 22 = .ok (.if_icmp .eq 17, 3) := by decide +kernel
theorem dX12_reads_25 : decode cX12_reads 25 = .ok (.aload_n 0, 1) := by decide +kernel
theorem dX12_reads_26 : decode cX12_reads 26 = .ok (.iconst 1, 1) := by decide +kernel
theorem dX12_reads_27 : decode cX12_reads 27 = .ok (.invokevirtual 297, 3) := by decide +kernel
theorem dX12_reads_30 : decode cX12_reads 30 = .ok (.ifCond .le 7, 3) := by decide +kernel
theorem dX12_reads_33 : decode cX12_reads 33 = .ok (.iconst 1, 1) := by decide +kernel
theorem dX12_reads_34 : decode cX12_reads 34 = .ok (.goto 4, 3) := by decide +kernel
theorem dX12_reads_37 : decode cX12_reads 37 = .ok (.iconst 0, 1) := by decide +kernel
theorem dX12_reads_38 : decode cX12_reads 38 = .ok (.ireturn, 1) := by decide +kernel
theorem dX12_reads_39 : decode cX12_reads 39 = .ok (.aload_n 0, 1) := by decide +kernel
theorem dX12_reads_40 : decode cX12_reads 40 = .ok (.aload_n 1, 1) := by decide +kernel
theorem dX12_reads_41 : decode cX12_reads 41 = .ok (.iconst 0, 1) := by decide +kernel
theorem dX12_reads_42 : decode cX12_reads 42 = .ok (.invokestatic 293, 3) := by decide +kernel
theorem dX12_reads_45 : decode cX12_reads 45 = .ok (.putfield 323, 3) := by decide +kernel
theorem dX12_reads_48 : decode cX12_reads 48 = .ok (.aload_n 0, 1) := by decide +kernel
theorem dX12_reads_49 : decode cX12_reads 49 = .ok (.aload_n 1, 1) := by decide +kernel
theorem dX12_reads_50 : decode cX12_reads 50 = .ok (.iconst 2, 1) := by decide +kernel
theorem dX12_reads_51 : decode cX12_reads 51 = .ok (.invokestatic 293, 3) := by decide +kernel
theorem dX12_reads_54 : decode cX12_reads 54 = .ok (.putfield 326, 3) := by decide +kernel
theorem dX12_reads_57 : decode cX12_reads 57 = .ok (.aload_n 0, 1) := by decide +kernel
theorem dX12_reads_58 : decode cX12_reads 58 = .ok (.bipush 12, 2) := by decide +kernel
theorem dX12_reads_60 : decode cX12_reads 60 = .ok (.putfield 300, 3) := by decide +kernel
theorem dX12_reads_63 : decode cX12_reads 63 = .ok (.aload_n 0, 1) := by decide +kernel
theorem dX12_reads_64 : decode cX12_reads 64 = .ok (.aload_n 0, 1) := by decide +kernel
theorem dX12_reads_65 : decode cX12_reads 65 = .ok (.aload_n 1, 1) := by decide +kernel
theorem dX12_reads_66 : decode cX12_reads 66 = .ok (.iload_n 2, 1) := by decide +kernel
theorem dX12_reads_67 : decode cX12_reads 67 = .ok (.invokevirtual 307, 3) := by decide +kernel
theorem dX12_reads_70 : decode cX12_reads 70 = .ok (.putfield 329, 3) := by decide +kernel
theorem dX12_reads_73 : decode cX12_reads 73 = .ok (.aload_n 0, 1) := by decide +kernel
theorem dX12_reads_74 : decode cX12_reads 74 = .ok (.getfield 290, 3) := by decide +kernel
theorem dX12_reads_77 : decode cX12_reads 77 = .ok (.ifCond .le 5, 3) := by decide +kernel
theorem dX12_reads_80 : decode cX12_reads 80 = .ok (.iconst 0, 1) := by decide +kernel
theorem dX12_reads_81 : decode cX12_reads 81 = .ok (.ireturn, 1) := by decide +kernel
theorem dX12_reads_82 : decode cX12_reads 82 = .ok (.aload_n 0, 1) := by decide +kernel
theorem dX12_reads_83 : decode cX12_reads 83 = .ok (.getfield 300, 3) := by decide +kernel
theorem dX12_reads_86 : decode cX12_reads 86 = .ok (.iconst 4, 1) := by decide +kernel
theorem dX12_reads_87 : decode cX12_reads 87 = .ok (.iadd, 1) := by decide +kernel
theorem dX12_reads_88 : decode cX12_reads 88 = .ok (.iload_n 2, 1) := by decide +kernel
theorem dX12_reads_89 : decode cX12_reads 89 = .ok (.if_icmp .le 17, 3) := by decide +kernel
theorem dX12_reads_92 : decode cX12_reads 92 = .ok (.aload_n 0, 1) := by decide +kernel
theorem dX12_reads_93 : decode cX12_reads 93 = .ok (.iconst 3, 1) := by decide +kernel
theorem dX12_reads_94 : decode cX12_reads 94 = .ok (.invokevirtual 297, 3) := by decide +kernel
theorem dX12_reads_97 : decode cX12_reads 97 = .ok (.ifCond .le 7, 3) := by decide +kernel
theorem dX12_reads_100 : decode cX12_reads 100 = .ok (.iconst 1, 1) := by decide +kernel
theorem dX12_reads_101 : decode cX12_reads 101 = .ok (.goto 4, 3) := by decide +kernel
theorem dX12_reads_104 : decode cX12_reads 104 = .ok (.iconst 0, 1) := by decide +kernel
theorem dX12_reads_105 : decode cX12_reads 105 = .ok (.ireturn, 1) := by decide +kernel
theorem dX12_reads_106 : decode cX12_reads 106 = .ok (.aload_n 0, 1) := by decide +kernel
theorem dX12_reads_107 : decode cX12_reads 107 = .ok (.aload_n 1, 1) := by decide +kernel
theorem dX12_reads_108 : decode cX12_reads 108 = .ok (.aload_n 0, 1) := by decide +kernel
theorem dX12_reads_109 : decode cX12_reads 109 = .ok (.getfield 300, 3) := by decide +kernel
theorem dX12_reads_112 : decode cX12_reads 112 = .ok (.invokestatic 293, 3) := by decide +kernel
theorem dX12_reads_115 : decode cX12_reads 115 = .ok (.putfield 332, 3) := by decide +kernel
theorem dX12_reads_118 : decode cX12_reads 118 = .ok (.aload_n 0, 1) := by decide +kernel
theorem dX12_reads_119 : decode cX12_reads 119 = .ok (.aload_n 1, 1) := by decide +kernel
theorem dX12_reads_120 : decode cX12_reads 120 = .ok (.aload_n 0, 1) := by decide +kernel
theorem dX12_reads_121 : decode cX12_reads 121 = .ok (.getfield 300, 3) := by decide +kernel
theorem dX12_reads_124 : decode cX12_reads 124 = .ok (.iconst 2, 1) := by decide +kernel
theorem dX12_reads_125 : decode cX12_reads 125 = .ok (.iadd, 1) := by decide +kernel
theorem dX12_reads_126 : decode cX12_reads 126 = .ok (.invokestatic 293, 3) := by decide +kernel
theorem dX12_reads_129 : decode cX12_reads 129 = .ok (.putfield 335, 3) := by decide +kernel
theorem dX12_reads_132 : decode cX12_reads 132 = .ok (.aload_n 0, 1) := by decide +kernel
theorem dX12_reads_133 : decode cX12_reads 133 = .ok (.dup, 1) := by decide +kernel
theorem dX12_reads_134 : decode cX12_reads 134 = .ok (.getfield 300, 3) := by decide +kernel
theorem dX12_reads_137 : decode cX12_reads 137 = .ok (.iconst 4, 1) := by decide +kernel
theorem dX12_reads_138 : decode cX12_reads 138 = .ok (.iadd, 1) := by decide +kernel
theorem dX12_reads_139 : decode cX12_reads 139 = .ok (.putfield 300, 3) := by decide +kernel
theorem dX12_reads_142 : decode cX12_reads 142 = .ok (.iconst 0, 1) := by decide +kernel
theorem dX12_reads_143 : decode cX12_reads 143 = .ok (.istore_n 3, 1) := by decide +kernel
theorem dX12_reads_144 : decode cX12_reads 144 = .ok (.iload_n 3, 1) := by decide +kernel
theorem dX12_reads_145 : decode cX12_reads 145 = .ok (.iconst 3, 1) := by decide +kernel
theorem dX12_reads_146 : decode cX12_reads 146 = .ok (.if_icmp .ge 46, 3) := by decide +kernel
theorem dX12_reads_149 : decode cX12_reads 149 = .ok (.aload_n 1, 1) := by decide +kernel
theorem dX12_reads_150 : decode cX12_reads 150 = .ok (.bipush 6, 2) := by decide +kernel
theorem dX12_reads_152 : decode cX12_reads 152 = .ok (.iconst 2, 1) := by decide +kernel
theorem dX12_reads_153 : decode cX12_reads 153 = .ok (.iload_n 3, 1) := by decide +kernel
theorem dX12_reads_154 : decode cX12_reads 154 = .ok (.imul, 1) := by decide +kernel
theorem dX12_reads_155 : decode cX12_reads 155 = .ok (.iadd, 1) := by decide +kernel
theorem dX12_reads_156 : decode cX12_reads 156 = .ok (.invokestatic 293, 3) := by decide +kernel
theorem dX12_reads_159 : decode cX12_reads 159 = .ok (.istore 4, 2) := by decide +kernel
theorem dX12_reads_161 : decode cX12_reads 161 = .ok (.iload 4, 2) := by decide +kernel
theorem dX12_reads_163 : decode cX12_reads 163 = .ok (.ifCond .le 23, 3) := by decide +kernel
theorem dX12_reads_166 : decode cX12_reads 166 = .ok (.aload_n 0, 1) := by decide +kernel
theorem dX12_reads_167 : decode cX12_reads 167 = .ok (.getfield 290, 3) := by decide +kernel
theorem dX12_reads_170 : decode cX12_reads 170 = .ok (.ifCond .ne 16, 3) := by decide +kernel
theorem dX12_reads_173 : decode cX12_reads 173 = .ok (.aload_n 0, 1) := by decide +kernel
theorem dX12_reads_174 : decode cX12_reads 174 = .ok (.aload_n 1, 1) := by decide +kernel
theorem dX12_reads_175 : decode cX12_reads 175 = .ok (.iload_n 2, 1) := by decide +kernel
theorem dX12_reads_176 : decode cX12_reads 176 = .ok (.iload_n 3, 1) := by decide +kernel
theorem dX12_reads_177 : decode cX12_reads 177 = .ok (.invokevirtual 338, 3) := by decide +kernel
theorem dX12_reads_180 : decode cX12_reads 180 = .ok (.iinc 4 (-1), 3) := by decide +kernel
theorem dX12_reads_183 : decode cX12_reads 183 = .ok (.goto (-22), 3) := by decide +kernel
theorem dX12_reads_186 : decode cX12_reads 186 = .ok (.iinc 3 1, 3) := by decide +kernel
theorem dX12_reads_189 : decode cX12_reads 189 = .ok (.goto (-45), 3) := by decide +kernel
theorem dX12_reads_192 : decode cX12_reads 192 = .ok (.aload_n 0, 1) := by decide +kernel
theorem dX12_reads_193 : decode cX12_reads 193 = .ok (.getfield 290, 3) := by decide +kernel
theorem dX12_reads_196 : decode cX12_reads 196 = .ok (.ifCond .ne 16, 3) := by decide +kernel
theorem dX12_reads_199 : decode cX12_reads 199 = .ok (.aload_n 0, 1) := by decide +kernel
theorem dX12_reads_200 : decode cX12_reads 200 = .ok (.getfield 300, 3) := by decide +kernel
theorem dX12_reads_203 : decode cX12_reads 203 = .ok (.iload_n 2, 1) := by decide +kernel
theorem dX12_reads_204 : decode cX12_reads 204 = .ok (.if_icmp .ge 8, 3) := by decide +kernel
theorem dX12_reads_207 : decode cX12_reads 207 = .ok (.aload_n 0, 1) := by decide +kernel
theorem dX12_reads_208 : decode cX12_reads 208 = .ok (.iconst 5, 1) := by decide +kernel
theorem dX12_reads_209 : decode cX12_reads 209 = .ok (.putfield 290, 3) := by decide +kernel
theorem dX12_reads_212 : decode cX12_reads 212 = .ok (.aload_n 0, 1) := by decide +kernel
theorem dX12_reads_213 : decode cX12_reads 213 = .ok (.getfield 290, 3) := by decide +kernel
theorem dX12_reads_216 : decode cX12_reads 216 = .ok (.ifCond .ne 7, 3) := by decide +kernel
theorem dX12_reads_219 : decode cX12_reads 219 = .ok (.iconst 1, 1) := by decide +kernel
theorem dX12_reads_220 : decode cX12_reads 220 = .ok (.goto 4, 3) := by decide +kernel
theorem dX12_reads_223 : decode cX12_reads 223 = .ok (.iconst 0, 1) := by decide +kernel
theorem dX12_reads_224 : decode cX12_reads 224 = .ok (.ireturn, 1) := by decide +kernel
theorem dX12_parse_0 : decode cX12_parse 0 = .ok (.aload_n 0, 1) := by decide +kernel
theorem dX12_parse_1 : decode cX12_parse 1 = .ok (.invokevirtual 169, 3) := by decide +kernel
theorem dX12_parse_4 : decode cX12_parse 4 = .ok (.istore_n 1, 1) := by decide +kernel
theorem dX12_parse_5 : decode cX12_parse 5 = .ok (.aload_n 0, 1) := by decide +kernel
theorem dX12_parse_6 : decode cX12_parse 6 = .ok (.aload_n 0, 1) := by decide +kernel
theorem dX12_parse_7 : decode cX12_parse 7 = .ok (.getfield 33, 3) := by decide +kernel
theorem dX12_parse_10 : decode cX12_parse 10 = .ok (.iload_n 1, 1) := by decide +kernel
theorem dX12_parse_11 : decode cX12_parse 11 = .ok (.invokevirtual 342, 3) := by decide +kernel
theorem dX12_parse_14 : decode cX12_parse 14 = .ok (.ifCond .ne 9, 3) := by decide +kernel
theorem dX12_parse_17 : decode cX12_parse 17 = .ok (.aload_n 0, 1) := by decide +kernel
theorem dX12_parse_18 : decode cX12_parse 18 = .ok (.getfield 290, 3) := by decide +kernel
theorem dX12_parse_21 : decode cX12_parse 21 = .ok (.ineg, 1) := by decide +kernel
theorem dX12_parse_22 : decode cX12_parse 22 = .ok (.ireturn, 1) := by decide +kernel
theorem dX12_parse_23 : decode cX12_parse 23 = .ok (.iconst 0, 1) := by decide +kernel
theorem dX12_parse_24 : decode cX12_parse 24 = .ok (.istore_n 2, 1) := by decide +kernel
theorem dX12_parse_25 : decode cX12_parse 25 = .ok (.iload_n 2, 1) := by decide +kernel
theorem dX12_parse_26 : decode cX12_parse 26 = .ok (.aload_n 0, 1) := by decide +kernel
theorem dX12_parse_27 : decode cX12_parse 27 = .ok (.getfield 320, 3) := by decide +kernel
theorem dX12_parse_30 : decode cX12_parse 30 = .ok (.if_icmp .ge 87, 3) := by decide +kernel
theorem dX12_parse_33 : decode cX12_parse 33 = .ok (.aload_n 0, 1) := by decide +kernel
theorem dX12_parse_34 : decode cX12_parse 34 = .ok (.getfield 94, 3) := by decide +kernel
theorem dX12_parse_37 : decode cX12_parse 37 = .ok (.iconst 5, 1) := by decide +kernel
theorem dX12_parse_38 : decode cX12_parse 38 = .ok (.iload_n 2, 1) := by decide +kernel
theorem dX12_parse_39 : decode cX12_parse 39 = .ok (.imul, 1) := by decide +kernel
theorem dX12_parse_40 : decode cX12_parse 40 = .ok (.aload_n 0, 1) := by decide +kernel
theorem dX12_parse_41 : decode cX12_parse 41 = .ok (.getfield 79, 3) := by decide +kernel
theorem dX12_parse_44 : decode cX12_parse 44 = .ok (.iload_n 2, 1) := by decide +kernel
theorem dX12_parse_45 : decode cX12_parse 45 = .ok (.iaload, 1) := by decide +kernel
theorem dX12_parse_46 : decode cX12_parse 46 = .ok (.iastore, 1) := by decide +kernel
theorem dX12_parse_47 : decode cX12_parse 47 = .ok (.aload_n 0, 1) := by decide +kernel
theorem dX12_parse_48 : decode cX12_parse 48 = .ok (.getfield 94, 3) := by decide +kernel
theorem dX12_parse_51 : decode cX12_parse 51 = .ok (.iconst 5, 1) := by decide +kernel
theorem dX12_parse_52 : decode cX12_parse 52 = .ok (.iload_n 2, 1) := by decide +kernel
theorem dX12_parse_53 : decode cX12_parse 53 = .ok (.imul, 1) := by decide +kernel
theorem dX12_parse_54 : decode cX12_parse 54 = .ok (.iconst 1, 1) := by decide +kernel
theorem dX12_parse_55 : decode cX12_parse 55 = .ok (.iadd, 1) := by decide +kernel
theorem dX12_parse_56 : decode cX12_parse 56 = .ok (.aload_n 0, 1) := by decide +kernel
theorem dX12_parse_57 : decode cX12_parse 57 = .ok (.getfield 82, 3) := by decide +kernel
theorem dX12_parse_60 : decode cX12_parse 60 = .ok (.iload_n 2, 1) := by decide +kernel
theorem dX12_parse_61 : decode cX12_parse 61 = .ok (.iaload, 1) := by decide +kernel
theorem dX12_parse_62 : decode cX12_parse 62 = .ok (.iastore, 1) := by decide +kernel
theorem dX12_parse_63 : decode cX12_parse 63 = .ok (.aload_n 0, 1) := by decide +kernel
theorem dX12_parse_64 : decode cX12_parse 64 = .ok (.getfield 94, 3) := by decide +kernel
theorem dX12_parse_67 : decode cX12_parse 67 = .ok (.iconst 5, 1) := by decide +kernel
theorem dX12_parse_68 : decode cX12_parse 68 = .ok (.iload_n 2, 1) := by decide +kernel
theorem dX12_parse_69 : decode cX12_parse 69 = .ok (.imul, 1) := by decide +kernel
theorem dX12_parse_70 : decode cX12_parse 70 = .ok (.iconst 2, 1) := by decide +kernel
theorem dX12_parse_71 : decode cX12_parse 71 = .ok (.iadd, 1) := by decide +kernel
theorem dX12_parse_72 : decode cX12_parse 72 = .ok (.aload_n 0, 1) := by decide +kernel
theorem dX12_parse_73 : decode cX12_parse 73 = .ok (.getfield 85, 3) := by decide +kernel
theorem dX12_parse_76 : decode cX12_parse 76 = .ok (.iload_n 2, 1) := by decide +kernel
theorem dX12_parse_77 : decode cX12_parse 77 = .ok (.iaload, 1) := by decide +kernel
theorem dX12_parse_78 : decode cX12_parse 78 = .ok (.iastore, 1) := by decide +kernel
theorem dX12_parse_79 : decode cX12_parse 79 = .ok (.aload_n 0, 1) := by decide +kernel
theorem dX12_parse_80 : decode cX12_parse 80 = .ok (.getfield 94, 3) := by decide +kernel
theorem dX12_parse_83 : decode cX12_parse 83 = .ok (.iconst 5, 1) := by decide +kernel
theorem dX12_parse_84 : decode cX12_parse 84 = .ok (.iload_n 2, 1) := by decide +kernel
theorem dX12_parse_85 : decode cX12_parse 85 = .ok (.imul, 1) := by decide +kernel
theorem dX12_parse_86 : decode cX12_parse 86 = .ok (.iconst 3, 1) := by decide +kernel
theorem dX12_parse_87 : decode cX12_parse 87 = .ok (.iadd, 1) := by decide +kernel
theorem dX12_parse_88 : decode cX12_parse 88 = .ok (.aload_n 0, 1) := by decide +kernel
theorem dX12_parse_89 : decode cX12_parse 89 = .ok (.getfield 88, 3) := by decide +kernel
theorem dX12_parse_92 : decode cX12_parse 92 = .ok (.iload_n 2, 1) := by decide +kernel
theorem dX12_parse_93 : decode cX12_parse 93 = .ok (.iaload, 1) := by decide +kernel
theorem dX12_parse_94 : decode cX12_parse 94 = .ok (.iastore, 1) := by decide +kernel
theorem dX12_parse_95 : decode cX12_parse 95 = .ok (.aload_n 0, 1) := by decide +kernel
theorem dX12_parse_96 : decode cX12_parse 96 = .ok (.getfield 94, 3) := by decide +kernel
theorem dX12_parse_99 : decode cX12_parse 99 = .ok (.iconst 5, 1) := by decide +kernel
theorem dX12_parse_100 : decode cX12_parse 100 = .ok (.iload_n 2, 1) := by decide +kernel
theorem dX12_parse_101 : decode cX12_parse 101 = .ok (.imul, 1) := by decide +kernel
theorem dX12_parse_102 : decode cX12_parse 102 = .ok (.iconst 4, 1) := by decide +kernel
theorem dX12_parse_103 : decode cX12_parse 103 = .ok (.iadd, 1) := by decide +kernel
theorem dX12_parse_104 : decode cX12_parse 104 = .ok (.aload_n 0, 1) := by decide +kernel
theorem dX12_parse_105 : decode cX12_parse 105 = .ok (.getfield 91, 3) := by decide +kernel
theorem dX12_parse_108 : decode cX12_parse 108 = .ok (.iload_n 2, 1) := by decide +kernel
theorem dX12_parse_109 : decode cX12_parse 109 = .ok (.iaload, 1) := by decide +kernel
theorem dX12_parse_110 : decode cX12_parse 110 = .ok (.iastore, 1) := by decide +kernel
theorem dX12_parse_111 : decode cX12_parse 111 = .ok (.iinc 2 1, 3) := by decide +kernel
theorem dX12_parse_114 : decode cX12_parse 114 = .ok (.goto (-89), 3) := by decide +kernel
theorem dX12_parse_117 : decode cX12_parse 117 = .ok (.aload_n 0, 1) := by decide +kernel
theorem dX12_parse_118 : decode cX12_parse 118 = .ok (.aload_n 0, 1) := by decide +kernel
theorem dX12_parse_119 : decode cX12_parse 119 = .ok (.getfield 320, 3) := by decide +kernel
theorem dX12_parse_122 : decode cX12_parse 122 = .ok (.putfield 346, 3) := by decide +kernel
theorem dX12_parse_125 : decode cX12_parse 125 = .ok (.aload_n 0, 1) := by decide +kernel
theorem dX12_parse_126 : decode cX12_parse 126 = .ok (.getfield 320, 3) := by decide +kernel
theorem dX12_parse_129 : decode cX12_parse 129 = .ok (.ireturn, 1) := by decide +kernel
theorem dX12_parsed_0 : decode cX12_parsed 0 = .ok (.aload_n 0, 1) := by decide +kernel
theorem dX12_parsed_1 : decode cX12_parsed 1 = .ok (.iconst 0, 1) := by decide +kernel
theorem dX12_parsed_2 : decode cX12_parsed 2 = .ok (.putfield 149, 3) := by decide +kernel
theorem dX12_parsed_5 : decode cX12_parsed 5 = .ok (.aload_n 0, 1) := by decide +kernel
theorem dX12_parsed_6 : decode cX12_parsed 6 = .ok (.iload_n 1, 1) := by decide +kernel
theorem dX12_parsed_7 : decode cX12_parsed 7 = .ok (.ifCond .lt 20, 3) := by decide +kernel
theorem dX12_parsed_10 : decode cX12_parsed 10 = .ok (.iload_n 1, 1) := by decide +kernel
theorem dX12_parsed_11 : decode cX12_parsed 11 = .ok (.aload_n 0, 1) := by decide +kernel
theorem dX12_parsed_12 : decode cX12_parsed 12 = .ok (.getfield 346, 3) := by decide +kernel
theorem dX12_parsed_15 : decode cX12_parsed 15 = .ok (.if_icmp .ge 12, 3) := by decide +kernel
theorem dX12_parsed_18 : decode cX12_parsed 18 = .ok (.iload_n 2, 1) := by decide +kernel
theorem dX12_parsed_19 : decode cX12_parsed 19 = .ok (.ifCond .lt 8, 3) := by decide +kernel
theorem dX12_parsed_22 : decode cX12_parsed 22 = .ok (.iload_n 2, 1) := by decide +kernel
theorem dX12_parsed_23 : decode cX12_parsed 23 = .ok (.iconst 4, 1) := by decide +kernel
theorem dX12_parsed_24 : decode cX12_parsed 24 = .ok (.if_icmp .le 7, 3) := by decide +kernel
theorem dX12_parsed_27 : decode cX12_parsed 27 = .ok (.iconst 1, 1) := by decide +kernel
theorem dX12_parsed_28 : decode cX12_parsed 28 = .ok (.goto 4, 3) := by decide +kernel
theorem dX12_parsed_31 : decode cX12_parsed 31 = .ok (.iconst 0, 1) := by decide +kernel
theorem dX12_parsed_32 : decode cX12_parsed 32 = .ok (.iconst 1, 1) := by decide +kernel
theorem dX12_parsed_33 : decode cX12_parsed 33 = .ok (.invokevirtual 176, 3) := by decide +kernel
theorem dX12_parsed_36 : decode cX12_parsed 36 = .ok (.ifCond .eq 7, 3) := by decide +kernel
theorem dX12_parsed_39 : decode cX12_parsed 39 = .ok (.iconst 0, 1) := by decide +kernel
theorem dX12_parsed_40 : decode cX12_parsed 40 = .ok (.goto 13, 3) := by decide +kernel
theorem dX12_parsed_43 : decode cX12_parsed 43 = .ok (.aload_n 0, 1) := by decide +kernel
theorem dX12_parsed_44 : decode cX12_parsed 44 = .ok (.getfield 94, 3) := by decide +kernel
theorem dX12_parsed_47 : decode cX12_parsed 47 = .ok (.iconst 5, 1) := by decide +kernel
theorem dX12_parsed_48 : decode cX12_parsed 48 = .ok (.iload_n 1, 1) := by decide +kernel
theorem dX12_parsed_49 : decode cX12_parsed 49 = .ok (.imul, 1) := by decide +kernel
theorem dX12_parsed_50 : decode cX12_parsed 50 = .ok (.iload_n 2, 1) := by decide +kernel
theorem dX12_parsed_51 : decode cX12_parsed 51 = .ok (.iadd, 1) := by decide +kernel
theorem dX12_parsed_52 : decode cX12_parsed 52 = .ok (.iaload, 1) := by decide +kernel
theorem dX12_parsed_53 : decode cX12_parsed 53 = .ok (.ireturn, 1) := by decide +kernel
theorem dX12_drops_0 : decode cX12_drops 0 = .ok (.aload_n 0, 1) := by decide +kernel
theorem dX12_drops_1 : decode cX12_drops 1 = .ok (.dup, 1) := by decide +kernel
theorem dX12_drops_2 : decode cX12_drops 2 = .ok (.getfield 349, 3) := by decide +kernel
theorem dX12_drops_5 : decode cX12_drops 5 = .ok (.iconst 1, 1) := by decide +kernel
theorem dX12_drops_6 : decode cX12_drops 6 = .ok (.isub, 1) := by decide +kernel
theorem dX12_drops_7 : decode cX12_drops 7 = .ok (.putfield 349, 3) := by decide +kernel
theorem dX12_drops_10 : decode cX12_drops 10 = .ok (.iload_n 1, 1) := by decide +kernel
theorem dX12_drops_11 : decode cX12_drops 11 = .ok (.istore_n 2, 1) := by decide +kernel
theorem dX12_drops_12 : decode cX12_drops 12 = .ok (.iload_n 2, 1) := by decide +kernel
theorem dX12_drops_13 : decode cX12_drops 13 = .ok (.aload_n 0, 1) := by decide +kernel
theorem dX12_drops_14 : decode cX12_drops 14 = .ok (.getfield 349, 3) := by decide +kernel
theorem dX12_drops_17 : decode cX12_drops 17 = .ok (.if_icmp .ge 103, 3) := by decide +kernel
theorem dX12_drops_20 : decode cX12_drops 20 = .ok (.aload_n 0, 1) := by decide +kernel
theorem dX12_drops_21 : decode cX12_drops 21 = .ok (.getfield 97, 3) := by decide +kernel
theorem dX12_drops_24 : decode cX12_drops 24 = .ok (.iload_n 2, 1) := by decide +kernel
theorem dX12_drops_25 : decode cX12_drops 25 = .ok (.aload_n 0, 1) := by decide +kernel
theorem dX12_drops_26 : decode cX12_drops 26 = .ok (.getfield 97, 3) := by decide +kernel
theorem dX12_drops_29 : decode cX12_drops 29 = .ok (.iload_n 2, 1) := by decide +kernel
theorem dX12_drops_30 : decode cX12_drops 30 = .ok (.iconst 1, 1) := by decide +kernel
theorem dX12_drops_31 : decode cX12_drops 31 = .ok (.iadd, 1) := by decide +kernel
theorem dX12_drops_32 : decode cX12_drops 32 = .ok (.iaload, 1) := by decide +kernel
theorem dX12_drops_33 : decode cX12_drops 33 = .ok (.iastore, 1) := by decide +kernel
theorem dX12_drops_34 : decode cX12_drops 34 = .ok (.aload_n 0, 1) := by decide +kernel
theorem dX12_drops_35 : decode cX12_drops 35 = .ok (.getfield 100, 3) := by decide +kernel
theorem dX12_drops_38 : decode cX12_drops 38 = .ok (.iload_n 2, 1) := by decide +kernel
theorem dX12_drops_39 : decode cX12_drops 39 = .ok (.aload_n 0, 1) := by decide +kernel
theorem dX12_drops_40 : decode cX12_drops 40 = .ok (.getfield 100, 3) := by decide +kernel
theorem dX12_drops_43 : decode cX12_drops 43 = .ok (.iload_n 2, 1) := by decide +kernel
theorem dX12_drops_44 : decode cX12_drops 44 = .ok (.iconst 1, 1) := by decide +kernel
theorem dX12_drops_45 : decode cX12_drops 45 = .ok (.iadd, 1) := by decide +kernel
theorem dX12_drops_46 : decode cX12_drops 46 = .ok (.iaload, 1) := by decide +kernel
theorem dX12_drops_47 : decode cX12_drops 47 = .ok (.iastore, 1) := by decide +kernel
theorem dX12_drops_48 : decode cX12_drops 48 = .ok (.aload_n 0, 1) := by decide +kernel
theorem dX12_drops_49 : decode cX12_drops 49 = .ok (.getfield 103, 3) := by decide +kernel
theorem dX12_drops_52 : decode cX12_drops 52 = .ok (.iload_n 2, 1) := by decide +kernel
theorem dX12_drops_53 : decode cX12_drops 53 = .ok (.aload_n 0, 1) := by decide +kernel
theorem dX12_drops_54 : decode cX12_drops 54 = .ok (.getfield 103, 3) := by decide +kernel
theorem dX12_drops_57 : decode cX12_drops 57 = .ok (.iload_n 2, 1) := by decide +kernel
theorem dX12_drops_58 : decode cX12_drops 58 = .ok (.iconst 1, 1) := by decide +kernel
theorem dX12_drops_59 : decode cX12_drops 59 = .ok (.iadd, 1) := by decide +kernel
theorem dX12_drops_60 : decode cX12_drops 60 = .ok (.iaload, 1) := by decide +kernel
theorem dX12_drops_61 : decode cX12_drops 61 = .ok (.iastore, 1) := by decide +kernel
theorem dX12_drops_62 : decode cX12_drops 62 = .ok (.aload_n 0, 1) := by decide +kernel
theorem dX12_drops_63 : decode cX12_drops 63 = .ok (.getfield 109, 3) := by decide +kernel
theorem dX12_drops_66 : decode cX12_drops 66 = .ok (.iload_n 2, 1) := by decide +kernel
theorem dX12_drops_67 : decode cX12_drops 67 = .ok (.aload_n 0, 1) := by decide +kernel
theorem dX12_drops_68 : decode cX12_drops 68 = .ok (.getfield 109, 3) := by decide +kernel
theorem dX12_drops_71 : decode cX12_drops 71 = .ok (.iload_n 2, 1) := by decide +kernel
theorem dX12_drops_72 : decode cX12_drops 72 = .ok (.iconst 1, 1) := by decide +kernel
theorem dX12_drops_73 : decode cX12_drops 73 = .ok (.iadd, 1) := by decide +kernel
theorem dX12_drops_74 : decode cX12_drops 74 = .ok (.laload, 1) := by decide +kernel
theorem dX12_drops_75 : decode cX12_drops 75 = .ok (.lastore, 1) := by decide +kernel
theorem dX12_drops_76 : decode cX12_drops 76 = .ok (.iconst 0, 1) := by decide +kernel
theorem dX12_drops_77 : decode cX12_drops 77 = .ok (.istore_n 3, 1) := by decide +kernel
theorem dX12_drops_78 : decode cX12_drops 78 = .ok (.iload_n 3, 1) := by decide +kernel
theorem dX12_drops_79 : decode cX12_drops 79 = .ok (.bipush 10, 2) := by decide +kernel
theorem dX12_drops_81 : decode cX12_drops 81 = .ok (.if_icmp .ge 33, 3) := by decide +kernel
theorem dX12_drops_84 : decode cX12_drops 84 = .ok (.aload_n 0, 1) := by decide +kernel
theorem dX12_drops_85 : decode cX12_drops 85 = .ok (.getfield 106, 3) := by decide +kernel
theorem dX12_drops_88 : decode cX12_drops 88 = .ok (.bipush 10, 2) := by decide +kernel
theorem dX12_drops_90 : decode cX12_drops 90 = .ok (.iload_n 2, 1) := by decide +kernel
theorem dX12_drops_91 : decode cX12_drops 91 = .ok (.imul, 1) := by decide +kernel
theorem dX12_drops_92 : decode cX12_drops 92 = .ok (.iload_n 3, 1) := by decide +kernel
theorem dX12_drops_93 : decode cX12_drops 93 = .ok (.iadd, 1) := by decide +kernel
theorem dX12_drops_94 : decode cX12_drops 94 = .ok (.aload_n 0, 1) := by decide +kernel
theorem dX12_drops_95 : decode cX12_drops 95 = .ok (.getfield 106, 3) := by decide +kernel
theorem dX12_drops_98 : decode cX12_drops 98 = .ok (.bipush 10, 2) := by decide +kernel
theorem dX12_drops_100 : decode cX12_drops 100 = .ok (.iload_n 2, 1) := by decide +kernel
theorem dX12_drops_101 : decode cX12_drops 101 = .ok (.iconst 1, 1) := by decide +kernel
theorem dX12_drops_102 : decode cX12_drops 102 = .ok (.iadd, 1) := by decide +kernel
theorem dX12_drops_103 : decode cX12_drops 103 = .ok (.imul, 1) := by decide +kernel
theorem dX12_drops_104 : decode cX12_drops 104 = .ok (.iload_n 3, 1) := by decide +kernel
theorem dX12_drops_105 : decode cX12_drops 105 = .ok (.iadd, 1) := by decide +kernel
theorem dX12_drops_106 : decode cX12_drops 106 = .ok (.iaload, 1) := by decide +kernel
theorem dX12_drops_107 : decode cX12_drops 107 = .ok (.iastore, 1) := by decide +kernel
theorem dX12_drops_108 : decode cX12_drops 108 = .ok (.iinc 3 1, 3) := by decide +kernel
theorem dX12_drops_111 : decode cX12_drops 111 = .ok (.goto (-33), 3) := by decide +kernel
theorem dX12_drops_114 : decode cX12_drops 114 = .ok (.iinc 2 1, 3) := by decide +kernel
theorem dX12_drops_117 : decode cX12_drops 117 = .ok (.goto (-105), 3) := by decide +kernel
theorem dX12_drops_120 : decode cX12_drops 120 = .ok (.return_, 1) := by decide +kernel
theorem dX12_puts_0 : decode cX12_puts 0 = .ok (.iconst (-1), 1) := by decide +kernel
theorem dX12_puts_1 : decode cX12_puts 1 = .ok (.istore_n 3, 1) := by decide +kernel
theorem dX12_puts_2 : decode cX12_puts 2 = .ok (.iconst 0, 1) := by decide +kernel
theorem dX12_puts_3 : decode cX12_puts 3 = .ok (.istore 4, 2) := by decide +kernel
theorem dX12_puts_5 : decode cX12_puts 5 = .ok (.iconst 0, 1) := by decide +kernel
theorem dX12_puts_6 : decode cX12_puts 6 = .ok (.istore 5, 2) := by decide +kernel
theorem dX12_puts_8 : decode cX12_puts 8 = .ok (.iload 5, 2) := by decide +kernel
theorem dX12_puts_10 : decode cX12_puts 10 = .ok (.aload_n 0, 1) := by decide +kernel
theorem dX12_puts_11 : decode cX12_puts 11 = .ok (.getfield 349, 3) := by decide +kernel
theorem dX12_puts_14 : decode cX12_puts 14 = .ok (.if_icmp .ge 56, 3) := by decide +kernel
theorem dX12_puts_17 : decode cX12_puts 17 = .ok (.aload_n 0, 1) := by decide +kernel
theorem dX12_puts_18 : decode cX12_puts 18 = .ok (.getfield 97, 3) := by decide +kernel
theorem dX12_puts_21 : decode cX12_puts 21 = .ok (.iload 5, 2) := by decide +kernel
theorem dX12_puts_23 : decode cX12_puts 23 = .ok (.iaload, 1) := by decide +kernel
theorem dX12_puts_24 : decode cX12_puts 24 = .ok (.iload_n 1, 1) := by decide +kernel
theorem dX12_puts_25 : decode cX12_puts 25 = .ok (.if_icmp .ne 17, 3) := by decide +kernel
theorem dX12_puts_28 : decode cX12_puts 28 = .ok (.aload_n 0, 1) := by decide +kernel
theorem dX12_puts_29 : decode cX12_puts 29 = .ok (.getfield 100, 3) := by decide +kernel
theorem dX12_puts_32 : decode cX12_puts 32 = .ok (.iload 5, 2) := by decide +kernel
theorem dX12_puts_34 : decode cX12_puts 34 = .ok (.iaload, 1) := by decide +kernel
theorem dX12_puts_35 : decode cX12_puts 35 = .ok (.iload_n 2, 1) := by decide +kernel
theorem dX12_puts_36 : decode cX12_puts 36 = .ok (.if_icmp .ne 6, 3) := by decide +kernel
theorem dX12_puts_39 : decode cX12_puts 39 = .ok (.iload 5, 2) := by decide +kernel
theorem dX12_puts_41 : decode cX12_puts 41 = .ok (.istore_n 3, 1) := by decide +kernel
theorem dX12_puts_42 : decode cX12_puts 42 = .ok (.aload_n 0, 1) := by decide +kernel
theorem dX12_puts_43 : decode cX12_puts 43 = .ok (.getfield 109, 3) := by decide +kernel
theorem dX12_puts_46 : decode cX12_puts 46 = .ok (.iload 5, 2) := by decide +kernel
theorem dX12_puts_48 : decode cX12_puts 48 = .ok (.laload, 1) := by decide +kernel
theorem dX12_puts_49 : decode cX12_puts 49 = .ok (.aload_n 0, 1) := by decide +kernel
theorem dX12_puts_50 : decode cX12_puts 50 = .ok (.getfield 109, 3) := by decide +kernel
theorem dX12_puts_53 : decode cX12_puts 53 = .ok (.iload 4, 2) := by decide +kernel
theorem dX12_puts_55 : decode cX12_puts 55 = .ok (.laload, 1) := by decide +kernel
theorem dX12_puts_56 : decode cX12_puts 56 = .ok (.lcmp, 1) := by decide +kernel
theorem dX12_puts_57 : decode cX12_puts 57 = .ok (.ifCond .ge 7, 3) := by decide +kernel
theorem dX12_puts_60 : decode cX12_puts 60 = .ok (.iload 5, 2) := by decide +kernel
theorem dX12_puts_62 : decode cX12_puts 62 = .ok (.istore 4, 2) := by decide +kernel
theorem dX12_puts_64 : decode cX12_puts 64 = .ok (.iinc 5 1, 3) := by decide +kernel
theorem dX12_puts_67 : decode cX12_puts 67 = .ok (.goto (-59), 3) := by decide +kernel
theorem dX12_puts_70 : decode cX12_puts 70 = .ok (.iload_n 3, 1) := by decide +kernel
theorem dX12_puts_71 : decode cX12_puts 71 = .ok (.ifCond .lt 11, 3) := by decide +kernel
theorem dX12_puts_74 : decode cX12_puts 74 = .ok (.aload_n 0, 1) := by decide +kernel
theorem dX12_puts_75 : decode cX12_puts 75 = .ok (.iload_n 3, 1) := by decide +kernel
theorem dX12_puts_76 : decode cX12_puts 76 = .ok (.invokevirtual 352, 3) := by decide +kernel
theorem dX12_puts_79 : decode cX12_puts 79 = .ok (.goto 18, 3) := by decide +kernel
theorem dX12_puts_82 : decode cX12_puts 82 = .ok (.aload_n 0, 1) := by decide +kernel
theorem dX12_puts_83 : decode cX12_puts 83 = .ok (.getfield 349, 3) := by decide +kernel
theorem dX12_puts_86 : decode cX12_puts 86 = .ok (.bipush 100, 2) := by decide +kernel
theorem dX12_puts_88 : decode cX12_puts 88 = .ok (.if_icmp .ne 9, 3) := by decide +kernel
theorem dX12_puts_91 : decode cX12_puts 91 = .ok (.aload_n 0, 1) := by decide +kernel
theorem dX12_puts_92 : decode cX12_puts 92 = .ok (.iload 4, 2) := by decide +kernel
theorem dX12_puts_94 : decode cX12_puts 94 = .ok (.invokevirtual 352, 3) := by decide +kernel
theorem dX12_puts_97 : decode cX12_puts 97 = .ok (.aload_n 0, 1) := by decide +kernel
theorem dX12_puts_98 : decode cX12_puts 98 = .ok (.getfield 97, 3) := by decide +kernel
theorem dX12_puts_101 : decode cX12_puts 101 = .ok (.aload_n 0, 1) := by decide +kernel
theorem dX12_puts_102 : decode cX12_puts 102 = .ok (.getfield 349, 3) := by decide +kernel
theorem dX12_puts_105 : decode cX12_puts 105 = .ok (.iload_n 1, 1) := by decide +kernel
theorem dX12_puts_106 : decode cX12_puts 106 = .ok (.iastore, 1) := by decide +kernel
theorem dX12_puts_107 : decode cX12_puts 107 = .ok (.aload_n 0, 1) := by decide +kernel
theorem dX12_puts_108 : decode cX12_puts 108 = .ok (.getfield 100, 3) := by decide +kernel
theorem dX12_puts_111 : decode cX12_puts 111 = .ok (.aload_n 0, 1) := by decide +kernel
theorem dX12_puts_112 : decode cX12_puts 112 = .ok (.getfield 349, 3) := by decide +kernel
theorem dX12_puts_115 : decode cX12_puts 115 = .ok (.iload_n 2, 1) := by decide +kernel
theorem dX12_puts_116 : decode cX12_puts 116 = .ok (.iastore, 1) := by decide +kernel
theorem dX12_puts_117 : decode cX12_puts 117 = .ok (.aload_n 0, 1) := by decide +kernel
theorem dX12_puts_118 : decode cX12_puts 118 = .ok (.getfield 103, 3) := by decide +kernel
theorem dX12_puts_121 : decode cX12_puts 121 = .ok (.aload_n 0, 1) := by decide +kernel
theorem dX12_puts_122 : decode cX12_puts 122 = .ok (.getfield 349, 3) := by decide +kernel
theorem dX12_puts_125 : decode cX12_puts 125 = .ok (.aload_n 0, 1) := by decide +kernel
theorem dX12_puts_126 : decode cX12_puts 126 = .ok (.getfield 355, 3) := by decide +kernel
theorem dX12_puts_129 : decode cX12_puts 129 = .ok (.iastore, 1) := by decide +kernel
theorem dX12_puts_130 : decode cX12_puts 130 = .ok (.aload_n 0, 1) := by decide +kernel
theorem dX12_puts_131 : decode cX12_puts 131 = .ok (.getfield 109, 3) := by decide +kernel
theorem dX12_puts_134 : decode cX12_puts 134 = .ok (.aload_n 0, 1) := by decide +kernel
theorem dX12_puts_135 : decode cX12_puts 135 = .ok (.getfield 349, 3) := by decide +kernel
theorem dX12_puts_138 : decode cX12_puts 138 = .ok (.aload_n 0, 1) := by decide +kernel
theorem dX12_puts_139 : decode cX12_puts 139 = .ok (.getfield 358, 3) := by decide +kernel
theorem dX12_puts_142 : decode cX12_puts 142 = .ok (.i2l, 1) := by decide +kernel
theorem dX12_puts_143 : decode cX12_puts 143 = .ok (.aload_n 0, 1) := by decide +kernel
theorem dX12_puts_144 : decode cX12_puts 144 = .ok (.getfield 361, 3) := by decide +kernel
theorem dX12_puts_147 : decode cX12_puts 147 = .ok (.ladd, 1) := by decide +kernel
theorem dX12_puts_148 : decode cX12_puts 148 = .ok (.lastore, 1) := by decide +kernel
theorem dX12_puts_149 : decode cX12_puts 149 = .ok (.iconst 0, 1) := by decide +kernel
theorem dX12_puts_150 : decode cX12_puts 150 = .ok (.istore 5, 2) := by decide +kernel
theorem dX12_puts_152 : decode cX12_puts 152 = .ok (.iload 5, 2) := by decide +kernel
theorem dX12_puts_154 : decode cX12_puts 154 = .ok (.aload_n 0, 1) := by decide +kernel
theorem dX12_puts_155 : decode cX12_puts 155 = .ok (.getfield 355, 3) := by decide +kernel
theorem dX12_puts_158 : decode cX12_puts 158 = .ok (.if_icmp .ge 31, 3) := by decide +kernel
theorem dX12_puts_161 : decode cX12_puts 161 = .ok (.aload_n 0, 1) := by decide +kernel
theorem dX12_puts_162 : decode cX12_puts 162 = .ok (.getfield 106, 3) := by decide +kernel
theorem dX12_puts_165 : decode cX12_puts 165 = .ok (.bipush 10, 2) := by decide +kernel
theorem dX12_puts_167 : decode cX12_puts 167 = .ok (.aload_n 0, 1) := by decide +kernel
theorem dX12_puts_168 : decode cX12_puts 168 = .ok (.getfield 349, 3) := by decide +kernel
theorem dX12_puts_171 : decode cX12_puts 171 = .ok (.imul, 1) := by decide +kernel
theorem dX12_puts_172 : decode cX12_puts 172 = .ok (.iload 5, 2) := by decide +kernel
theorem dX12_puts_174 : decode cX12_puts 174 = .ok (.iadd, 1) := by decide +kernel
theorem dX12_puts_175 : decode cX12_puts 175 = .ok (.aload_n 0, 1) := by decide +kernel
theorem dX12_puts_176 : decode cX12_puts 176 = .ok (.getfield 113, 3) := by decide +kernel
theorem dX12_puts_179 : decode cX12_puts 179 = .ok (.iload 5, 2) := by decide +kernel
theorem dX12_puts_181 : decode cX12_puts 181 = .ok (.iaload, 1) := by decide +kernel
theorem dX12_puts_182 : decode cX12_puts 182 = .ok (.iastore, 1) := by decide +kernel
theorem dX12_puts_183 : decode cX12_puts 183 = .ok (.iinc 5 1, 3) := by decide +kernel
theorem dX12_puts_186 : decode cX12_puts 186 = .ok (.goto (-34), 3) := by decide +kernel
theorem dX12_puts_189 : decode cX12_puts 189 = .ok (.aload_n 0, 1) := by decide +kernel
theorem dX12_puts_190 : decode cX12_puts 190 = .ok (.dup, 1) := by decide +kernel
theorem dX12_puts_191 : decode cX12_puts 191 = .ok (.getfield 349, 3) := by decide +kernel
theorem dX12_puts_194 : decode cX12_puts 194 = .ok (.iconst 1, 1) := by decide +kernel
theorem dX12_puts_195 : decode cX12_puts 195 = .ok (.iadd, 1) := by decide +kernel
theorem dX12_puts_196 : decode cX12_puts 196 = .ok (.putfield 349, 3) := by decide +kernel
theorem dX12_puts_199 : decode cX12_puts 199 = .ok (.return_, 1) := by decide +kernel
theorem dX12_find_0 : decode cX12_find 0 = .ok (.iconst (-1), 1) := by decide +kernel
theorem dX12_find_1 : decode cX12_find 1 = .ok (.istore_n 3, 1) := by decide +kernel
theorem dX12_find_2 : decode cX12_find 2 = .ok (.iconst 0, 1) := by decide +kernel
theorem dX12_find_3 : decode cX12_find 3 = .ok (.istore 4, 2) := by decide +kernel
theorem dX12_find_5 : decode cX12_find 5 = .ok (.iload 4, 2) := by decide +kernel
theorem dX12_find_7 : decode cX12_find 7 = .ok (.aload_n 0, 1) := by decide +kernel
theorem dX12_find_8 : decode cX12_find 8 = .ok (.getfield 349, 3) := by decide +kernel
theorem dX12_find_11 : decode cX12_find 11 = .ok (.if_icmp .ge 50, 3) := by decide +kernel
theorem dX12_find_14 : decode cX12_find 14 = .ok (.aload_n 0, 1) := by decide +kernel
theorem dX12_find_15 : decode cX12_find 15 = .ok (.getfield 97, 3) := by decide +kernel
theorem dX12_find_18 : decode cX12_find 18 = .ok (.iload 4, 2) := by decide +kernel
theorem dX12_find_20 : decode cX12_find 20 = .ok (.iaload, 1) := by decide +kernel
theorem dX12_find_21 : decode cX12_find 21 = .ok (.iload_n 1, 1) := by decide +kernel
theorem dX12_find_22 : decode cX12_find 22 = .ok (.if_icmp .ne 33, 3) := by decide +kernel
theorem dX12_find_25 : decode cX12_find 25 = .ok (.aload_n 0, 1) := by decide +kernel
theorem dX12_find_26 : decode cX12_find 26 = .ok (.getfield 100, 3) := by decide +kernel
theorem dX12_find_29 : decode cX12_find 29 = .ok (.iload 4, 2) := by decide +kernel
theorem dX12_find_31 : decode cX12_find 31 = .ok (.iaload, 1) := by decide +kernel
theorem dX12_find_32 : decode cX12_find 32 = .ok (.iload_n 2, 1) := by decide +kernel
theorem dX12_find_33 : decode cX12_find 33 = .ok (.if_icmp .ne 22, 3) := by decide +kernel
theorem dX12_find_36 : decode cX12_find 36 = .ok (.aload_n 0, 1) := by decide +kernel
theorem dX12_find_37 : decode cX12_find 37 = .ok (.getfield 358, 3) := by decide +kernel
theorem dX12_find_40 : decode cX12_find 40 = .ok (.i2l, 1) := by decide +kernel
theorem dX12_find_41 : decode cX12_find 41 = .ok (.aload_n 0, 1) := by decide +kernel
theorem dX12_find_42 : decode cX12_find 42 = .ok (.getfield 109, 3) := by decide +kernel
theorem dX12_find_45 : decode cX12_find 45 = .ok (.iload 4, 2) := by decide +kernel
theorem dX12_find_47 : decode cX12_find 47 = .ok (.laload, 1) := by decide +kernel
theorem dX12_find_48 : decode cX12_find 48 = .ok (.lcmp, 1) := by decide +kernel
theorem dX12_find_49 : decode cX12_find 49 = .ok (.ifCond .ge 6, 3) := by decide +kernel
theorem dX12_find_52 : decode cX12_find 52 = .ok (.iload 4, 2) := by decide +kernel
theorem dX12_find_54 : decode cX12_find 54 = .ok (.istore_n 3, 1) := by decide +kernel
theorem dX12_find_55 : decode cX12_find 55 = .ok (.iinc 4 1, 3) := by decide +kernel
theorem dX12_find_58 : decode cX12_find 58 = .ok (.goto (-53), 3) := by decide +kernel
theorem dX12_find_61 : decode cX12_find 61 = .ok (.iload_n 3, 1) := by decide +kernel
theorem dX12_find_62 : decode cX12_find 62 = .ok (.ireturn, 1) := by decide +kernel
theorem dX12_set_0 : decode cX12_set 0 = .ok (.aload_n 0, 1) := by decide +kernel
theorem dX12_set_1 : decode cX12_set 1 = .ok (.iload_n 1, 1) := by decide +kernel
theorem dX12_set_2 : decode cX12_set 2 = .ok (.iload_n 2, 1) := by decide +kernel
theorem dX12_set_3 : decode cX12_set 3 = .ok (.invokevirtual 365, 3) := by decide +kernel
theorem dX12_set_6 : decode cX12_set 6 = .ok (.istore_n 3, 1) := by decide +kernel
theorem dX12_set_7 : decode cX12_set 7 = .ok (.iload_n 3, 1) := by decide +kernel
theorem dX12_set_8 : decode cX12_set 8 = .ok (.ifCond .lt 16, 3) := by decide +kernel
theorem dX12_set_11 : decode cX12_set 11 = .ok (.aload_n 0, 1) := by decide +kernel
theorem dX12_set_12 : decode cX12_set 12 = .ok (.getfield 103, 3) := by decide +kernel
theorem dX12_set_15 : decode cX12_set 15 = .ok (.iload_n 3, 1) := by decide +kernel
theorem dX12_set_16 : decode cX12_set 16 = .ok (.iaload, 1) := by decide +kernel
theorem dX12_set_17 : decode cX12_set 17 = .ok (.ifCond .le 7, 3) := by decide +kernel
theorem dX12_set_20 : decode cX12_set 20 = .ok (.iload_n 3, 1) := by decide +kernel
theorem dX12_set_21 : decode cX12_set 21 = .ok (.goto 4, 3) := by decide +kernel
theorem dX12_set_24 : decode cX12_set 24 = .ok (.iconst (-1), 1) := by decide +kernel
theorem dX12_set_25 : decode cX12_set 25 = .ok (.ireturn, 1) := by decide +kernel
theorem dX12_hasNothing_0 : decode cX12_hasNothing 0 = .ok (.aload_n 0, 1) := by decide +kernel
theorem dX12_hasNothing_1 : decode cX12_hasNothing 1 = .ok (.iload_n 1, 1) := by decide +kernel
theorem dX12_hasNothing_2 : decode cX12_hasNothing 2 = .ok (.iload_n 2, 1) := by decide +kernel
theorem dX12_hasNothing_3 : decode cX12_hasNothing 3 = .ok (.invokevirtual 365, 3) := by decide +kernel
theorem dX12_hasNothing_6 : decode cX12_hasNothing 6 = .ok (.istore_n 3, 1) := by decide +kernel
theorem dX12_hasNothing_7 : decode cX12_hasNothing 7 = .ok (.iload_n 3, 1) := by decide +kernel
theorem dX12_hasNothing_8 : decode cX12_hasNothing 8 = .ok (.ifCond .lt 16, 3) := by decide +kernel
theorem dX12_hasNothing_11 : decode cX12_hasNothing 11 = .ok (.aload_n 0, 1) := by decide +kernel
theorem dX12_hasNothing_12 : decode cX12_hasNothing 12 = .ok (.getfield 103, 3) := by decide +kernel
theorem dX12_hasNothing_15 : decode cX12_hasNothing 15 = .ok (.iload_n 3, 1) := by decide +kernel
theorem dX12_hasNothing_16 : decode cX12_hasNothing 16 = .ok (.iaload, 1) := by decide +kernel
theorem dX12_hasNothing_17 : decode cX12_hasNothing 17 = .ok (.ifCond .ne 7, 3) := by decide +kernel
theorem dX12_hasNothing_20 : decode cX12_hasNothing 20 = .ok (.iconst 1, 1) := by decide +kernel
theorem dX12_hasNothing_21 : decode cX12_hasNothing 21 = .ok (.goto 4, 3) := by decide +kernel
theorem dX12_hasNothing_24 : decode cX12_hasNothing 24 = .ok (.iconst 0, 1) := by decide +kernel
theorem dX12_hasNothing_25 : decode cX12_hasNothing 25 = .ok (.ireturn, 1) := by decide +kernel
theorem dX12_cached_0 : decode cX12_cached 0 = .ok (.aload_n 0, 1) := by decide +kernel
theorem dX12_cached_1 : decode cX12_cached 1 = .ok (.iconst 0, 1) := by decide +kernel
theorem dX12_cached_2 : decode cX12_cached 2 = .ok (.putfield 149, 3) := by decide +kernel
theorem dX12_cached_5 : decode cX12_cached 5 = .ok (.aload_n 0, 1) := by decide +kernel
theorem dX12_cached_6 : decode cX12_cached 6 = .ok (.aload_n 0, 1) := by decide +kernel
theorem dX12_cached_7 : decode cX12_cached 7 = .ok (.iload_n 1, 1) := by decide +kernel
theorem dX12_cached_8 : decode cX12_cached 8 = .ok (.invokevirtual 187, 3) := by decide +kernel
theorem dX12_cached_11 : decode cX12_cached 11 = .ok (.iconst 1, 1) := by decide +kernel
theorem dX12_cached_12 : decode cX12_cached 12 = .ok (.invokevirtual 176, 3) := by decide +kernel
theorem dX12_cached_15 : decode cX12_cached 15 = .ok (.ifCond .eq 5, 3) := by decide +kernel
theorem dX12_cached_18 : decode cX12_cached 18 = .ok (.iconst 0, 1) := by decide +kernel
theorem dX12_cached_19 : decode cX12_cached 19 = .ok (.ireturn, 1) := by decide +kernel
theorem dX12_cached_20 : decode cX12_cached 20 = .ok (.aload_n 0, 1) := by decide +kernel
theorem dX12_cached_21 : decode cX12_cached 21 = .ok (.iload_n 1, 1) := by decide +kernel
theorem dX12_cached_22 : decode cX12_cached 22 = .ok (.iload_n 2, 1) := by decide +kernel
theorem dX12_cached_23 : decode cX12_cached 23 = .ok (.invokevirtual 365, 3) := by decide +kernel
theorem dX12_cached_26 : decode cX12_cached 26 = .ok (.istore_n 3, 1) := by decide +kernel
theorem dX12_cached_27 : decode cX12_cached 27 = .ok (.iload_n 3, 1) := by decide +kernel
theorem dX12_cached_28 : decode cX12_cached 28 = .ok (.ifCond .ge 7, 3) := by decide +kernel
theorem dX12_cached_31 : decode cX12_cached 31 = .ok (.iconst (-1), 1) := by decide +kernel
theorem dX12_cached_32 : decode cX12_cached 32 = .ok (.goto 9, 3) := by decide +kernel
theorem dX12_cached_35 : decode cX12_cached 35 = .ok (.aload_n 0, 1) := by decide +kernel
theorem dX12_cached_36 : decode cX12_cached 36 = .ok (.getfield 103, 3) := by decide +kernel
theorem dX12_cached_39 : decode cX12_cached 39 = .ok (.iload_n 3, 1) := by decide +kernel
theorem dX12_cached_40 : decode cX12_cached 40 = .ok (.iaload, 1) := by decide +kernel
theorem dX12_cached_41 : decode cX12_cached 41 = .ok (.ireturn, 1) := by decide +kernel
theorem dX12_tick_0 : decode cX12_tick 0 = .ok (.aload_n 0, 1) := by decide +kernel
theorem dX12_tick_1 : decode cX12_tick 1 = .ok (.iconst 0, 1) := by decide +kernel
theorem dX12_tick_2 : decode cX12_tick 2 = .ok (.putfield 149, 3) := by decide +kernel
theorem dX12_tick_5 : decode cX12_tick 5 = .ok (.aload_n 0, 1) := by decide +kernel
theorem dX12_tick_6 : decode cX12_tick 6 = .ok (.iload_n 1, 1) := by decide +kernel
theorem dX12_tick_7 : decode cX12_tick 7 = .ok (.ifCond .lt 9, 3) := by decide +kernel
theorem dX12_tick_10 : decode cX12_tick 10 = .ok (.iload_n 1, 1) := by decide +kernel
theorem dX12_tick_11 : decode cX12_tick 11 = .ok (.ldc 200, 2) := by decide +kernel
theorem dX12_tick_13 : decode cX12_tick 13 = .ok (.if_icmp .le 7, 3) := by decide +kernel
theorem dX12_tick_16 : decode cX12_tick 16 = .ok (.iconst 1, 1) := by decide +kernel
theorem dX12_tick_17 : decode cX12_tick 17 = .ok (.goto 4, 3) := by decide +kernel
theorem dX12_tick_20 : decode cX12_tick 20 = .ok (.iconst 0, 1) := by decide +kernel
theorem dX12_tick_21 : decode cX12_tick 21 = .ok (.iconst 1, 1) := by decide +kernel
theorem dX12_tick_22 : decode cX12_tick 22 = .ok (.invokevirtual 176, 3) := by decide +kernel
theorem dX12_tick_25 : decode cX12_tick 25 = .ok (.ifCond .eq 5, 3) := by decide +kernel
theorem dX12_tick_28 : decode cX12_tick 28 = .ok (.iconst 0, 1) := by decide +kernel
theorem dX12_tick_29 : decode cX12_tick 29 = .ok (.ireturn, 1) := by decide +kernel
theorem dX12_tick_30 : decode cX12_tick 30 = .ok (.aload_n 0, 1) := by decide +kernel
theorem dX12_tick_31 : decode cX12_tick 31 = .ok (.dup, 1) := by decide +kernel
theorem dX12_tick_32 : decode cX12_tick 32 = .ok (.getfield 358, 3) := by decide +kernel
theorem dX12_tick_35 : decode cX12_tick 35 = .ok (.iload_n 1, 1) := by decide +kernel
theorem dX12_tick_36 : decode cX12_tick 36 = .ok (.iadd, 1) := by decide +kernel
theorem dX12_tick_37 : decode cX12_tick 37 = .ok (.putfield 358, 3) := by decide +kernel
theorem dX12_tick_40 : decode cX12_tick 40 = .ok (.aload_n 0, 1) := by decide +kernel
theorem dX12_tick_41 : decode cX12_tick 41 = .ok (.getfield 358, 3) := by decide +kernel
theorem dX12_tick_44 : decode cX12_tick 44 = .ok (.ireturn, 1) := by decide +kernel
theorem dX12_anew_0 : decode cX12_anew 0 = .ok (.aload_n 0, 1) := by decide +kernel
theorem dX12_anew_1 : decode cX12_anew 1 = .ok (.getfield 131, 3) := by decide +kernel
theorem dX12_anew_4 : decode cX12_anew 4 = .ok (.iload_n 1, 1) := by decide +kernel
theorem dX12_anew_5 : decode cX12_anew 5 = .ok (.iconst 0, 1) := by decide +kernel
theorem dX12_anew_6 : decode cX12_anew 6 = .ok (.iastore, 1) := by decide +kernel
theorem dX12_anew_7 : decode cX12_anew 7 = .ok (.iconst 0, 1) := by decide +kernel
theorem dX12_anew_8 : decode cX12_anew 8 = .ok (.istore_n 2, 1) := by decide +kernel
theorem dX12_anew_9 : decode cX12_anew 9 = .ok (.iload_n 2, 1) := by decide +kernel
theorem dX12_anew_10 : decode cX12_anew 10 = .ok (.sipush 300, 3) := by decide +kernel
theorem dX12_anew_13 : decode cX12_anew 13 = .ok (.if_icmp .ge 22, 3) := by decide +kernel
theorem dX12_anew_16 : decode cX12_anew 16 = .ok (.aload_n 0, 1) := by decide +kernel
theorem dX12_anew_17 : decode cX12_anew 17 = .ok (.getfield 134, 3) := by decide +kernel
theorem dX12_anew_20 : decode cX12_anew 20 = .ok (.sipush 300, 3) := by decide +kernel
theorem dX12_anew_23 : decode cX12_anew 23 = .ok (.iload_n 1, 1) := by decide +kernel
theorem dX12_anew_24 : decode cX12_anew 24 = .ok (.imul, 1) := by decide +kernel
theorem dX12_anew_25 : decode cX12_anew 25 = .ok (.iload_n 2, 1) := by decide +kernel
theorem dX12_anew_26 : decode cX12_anew 26 = .ok (.iadd, 1) := by decide +kernel
theorem dX12_anew_27 : decode cX12_anew 27 = .ok (.iconst 0, 1) := by decide +kernel
theorem dX12_anew_28 : decode cX12_anew 28 = .ok (.bastore, 1) := by decide +kernel
theorem dX12_anew_29 : decode cX12_anew 29 = .ok (.iinc 2 1, 3) := by decide +kernel
theorem dX12_anew_32 : decode cX12_anew 32 = .ok (.goto (-23), 3) := by decide +kernel
theorem dX12_anew_35 : decode cX12_anew 35 = .ok (.return_, 1) := by decide +kernel
theorem dX12_opens_0 : decode cX12_opens 0 = .ok (.aload_n 0, 1) := by decide +kernel
theorem dX12_opens_1 : decode cX12_opens 1 = .ok (.getfield 116, 3) := by decide +kernel
theorem dX12_opens_4 : decode cX12_opens 4 = .ok (.aload_n 0, 1) := by decide +kernel
theorem dX12_opens_5 : decode cX12_opens 5 = .ok (.getfield 368, 3) := by decide +kernel
theorem dX12_opens_8 : decode cX12_opens 8 = .ok (.iload_n 1, 1) := by decide +kernel
theorem dX12_opens_9 : decode cX12_opens 9 = .ok (.iastore, 1) := by decide +kernel
theorem dX12_opens_10 : decode cX12_opens 10 = .ok (.aload_n 0, 1) := by decide +kernel
theorem dX12_opens_11 : decode cX12_opens 11 = .ok (.getfield 119, 3) := by decide +kernel
theorem dX12_opens_14 : decode cX12_opens 14 = .ok (.aload_n 0, 1) := by decide +kernel
theorem dX12_opens_15 : decode cX12_opens 15 = .ok (.getfield 368, 3) := by decide +kernel
theorem dX12_opens_18 : decode cX12_opens 18 = .ok (.iload_n 2, 1) := by decide +kernel
theorem dX12_opens_19 : decode cX12_opens 19 = .ok (.iastore, 1) := by decide +kernel
theorem dX12_opens_20 : decode cX12_opens 20 = .ok (.aload_n 0, 1) := by decide +kernel
theorem dX12_opens_21 : decode cX12_opens 21 = .ok (.getfield 122, 3) := by decide +kernel
theorem dX12_opens_24 : decode cX12_opens 24 = .ok (.aload_n 0, 1) := by decide +kernel
theorem dX12_opens_25 : decode cX12_opens 25 = .ok (.getfield 368, 3) := by decide +kernel
theorem dX12_opens_28 : decode cX12_opens 28 = .ok (.iconst 0, 1) := by decide +kernel
theorem dX12_opens_29 : decode cX12_opens 29 = .ok (.iastore, 1) := by decide +kernel
theorem dX12_opens_30 : decode cX12_opens 30 = .ok (.aload_n 0, 1) := by decide +kernel
theorem dX12_opens_31 : decode cX12_opens 31 = .ok (.getfield 125, 3) := by decide +kernel
theorem dX12_opens_34 : decode cX12_opens 34 = .ok (.aload_n 0, 1) := by decide +kernel
theorem dX12_opens_35 : decode cX12_opens 35 = .ok (.getfield 368, 3) := by decide +kernel
theorem dX12_opens_38 : decode cX12_opens 38 = .ok (.iconst (-1), 1) := by decide +kernel
theorem dX12_opens_39 : decode cX12_opens 39 = .ok (.iastore, 1) := by decide +kernel
theorem dX12_opens_40 : decode cX12_opens 40 = .ok (.aload_n 0, 1) := by decide +kernel
theorem dX12_opens_41 : decode cX12_opens 41 = .ok (.aload_n 0, 1) := by decide +kernel
theorem dX12_opens_42 : decode cX12_opens 42 = .ok (.getfield 368, 3) := by decide +kernel
theorem dX12_opens_45 : decode cX12_opens 45 = .ok (.invokevirtual 371, 3) := by decide +kernel
theorem dX12_opens_48 : decode cX12_opens 48 = .ok (.aload_n 0, 1) := by decide +kernel
theorem dX12_opens_49 : decode cX12_opens 49 = .ok (.dup, 1) := by decide +kernel
theorem dX12_opens_50 : decode cX12_opens 50 = .ok (.getfield 368, 3) := by decide +kernel
theorem dX12_opens_53 : decode cX12_opens 53 = .ok (.iconst 1, 1) := by decide +kernel
theorem dX12_opens_54 : decode cX12_opens 54 = .ok (.iadd, 1) := by decide +kernel
theorem dX12_opens_55 : decode cX12_opens 55 = .ok (.putfield 368, 3) := by decide +kernel
theorem dX12_opens_58 : decode cX12_opens 58 = .ok (.return_, 1) := by decide +kernel
theorem dX12_ends_0 : decode cX12_ends 0 = .ok (.aload_n 0, 1) := by decide +kernel
theorem dX12_ends_1 : decode cX12_ends 1 = .ok (.getfield 368, 3) := by decide +kernel
theorem dX12_ends_4 : decode cX12_ends 4 = .ok (.iconst 1, 1) := by decide +kernel
theorem dX12_ends_5 : decode cX12_ends 5 = .ok (.if_icmp .le 14, 3) := by decide +kernel
theorem dX12_ends_8 : decode cX12_ends 8 = .ok (.aload_n 0, 1) := by decide +kernel
theorem dX12_ends_9 : decode cX12_ends 9 = .ok (.dup, 1) := by decide +kernel
theorem dX12_ends_10 : decode cX12_ends 10 = .ok (.getfield 368, 3) := by decide +kernel
theorem dX12_ends_13 : decode cX12_ends 13 = .ok (.iconst 1, 1) := by decide +kernel
theorem dX12_ends_14 : decode cX12_ends 14 = .ok (.isub, 1) := by decide +kernel
theorem dX12_ends_15 : decode cX12_ends 15 = .ok (.putfield 368, 3) := by decide +kernel
theorem dX12_ends_18 : decode cX12_ends 18 = .ok (.return_, 1) := by decide +kernel
theorem dX12_ends_19 : decode cX12_ends 19 = .ok (.aload_n 0, 1) := by decide +kernel
theorem dX12_ends_20 : decode cX12_ends 20 = .ok (.iload_n 1, 1) := by decide +kernel
theorem dX12_ends_21 : decode cX12_ends 21 = .ok (.putfield 137, 3) := by decide +kernel
theorem dX12_ends_24 : decode cX12_ends 24 = .ok (.iload_n 1, 1) := by decide +kernel
theorem dX12_ends_25 : decode cX12_ends 25 = .ok (.ifCond .eq 4, 3) := by decide +kernel
theorem dX12_ends_28 : decode cX12_ends 28 = .ok (.return_, 1) := by decide +kernel
theorem dX12_ends_29 : decode cX12_ends 29 = .ok (.aload_n 0, 1) := by decide +kernel
theorem dX12_ends_30 : decode cX12_ends 30 = .ok (.aload_n 0, 1) := by decide +kernel
theorem dX12_ends_31 : decode cX12_ends 31 = .ok (.getfield 116, 3) := by decide +kernel
theorem dX12_ends_34 : decode cX12_ends 34 = .ok (.iconst 0, 1) := by decide +kernel
theorem dX12_ends_35 : decode cX12_ends 35 = .ok (.iaload, 1) := by decide +kernel
theorem dX12_ends_36 : decode cX12_ends 36 = .ok (.aload_n 0, 1) := by decide +kernel
theorem dX12_ends_37 : decode cX12_ends 37 = .ok (.getfield 119, 3) := by decide +kernel
theorem dX12_ends_40 : decode cX12_ends 40 = .ok (.iconst 0, 1) := by decide +kernel
theorem dX12_ends_41 : decode cX12_ends 41 = .ok (.iaload, 1) := by decide +kernel
theorem dX12_ends_42 : decode cX12_ends 42 = .ok (.invokevirtual 374, 3) := by decide +kernel
theorem dX12_ends_45 : decode cX12_ends 45 = .ok (.istore_n 2, 1) := by decide +kernel
theorem dX12_ends_46 : decode cX12_ends 46 = .ok (.aload_n 0, 1) := by decide +kernel
theorem dX12_ends_47 : decode cX12_ends 47 = .ok (.aload_n 0, 1) := by decide +kernel
theorem dX12_ends_48 : decode cX12_ends 48 = .ok (.getfield 103, 3) := by decide +kernel
theorem dX12_ends_51 : decode cX12_ends 51 = .ok (.iload_n 2, 1) := by decide +kernel
theorem dX12_ends_52 : decode cX12_ends 52 = .ok (.iaload, 1) := by decide +kernel
theorem dX12_ends_53 : decode cX12_ends 53 = .ok (.putfield 377, 3) := by decide +kernel
theorem dX12_ends_56 : decode cX12_ends 56 = .ok (.iconst 0, 1) := by decide +kernel
theorem dX12_ends_57 : decode cX12_ends 57 = .ok (.istore_n 3, 1) := by decide +kernel
theorem dX12_ends_58 : decode cX12_ends 58 = .ok (.iload_n 3, 1) := by decide +kernel
theorem dX12_ends_59 : decode cX12_ends 59 = .ok (.aload_n 0, 1) := by decide +kernel
theorem dX12_ends_60 : decode cX12_ends 60 = .ok (.getfield 377, 3) := by decide +kernel
theorem dX12_ends_63 : decode cX12_ends 63 = .ok (.if_icmp .ge 26, 3) := by decide +kernel
theorem dX12_ends_66 : decode cX12_ends 66 = .ok (.aload_n 0, 1) := by decide +kernel
theorem dX12_ends_67 : decode cX12_ends 67 = .ok (.getfield 143, 3) := by decide +kernel
theorem dX12_ends_70 : decode cX12_ends 70 = .ok (.iload_n 3, 1) := by decide +kernel
theorem dX12_ends_71 : decode cX12_ends 71 = .ok (.aload_n 0, 1) := by decide +kernel
theorem dX12_ends_72 : decode cX12_ends 72 = .ok (.getfield 106, 3) := by decide +kernel
theorem dX12_ends_75 : decode cX12_ends 75 = .ok (.bipush 10, 2) := by decide +kernel
theorem dX12_ends_77 : decode cX12_ends 77 = .ok (.iload_n 2, 1) := by decide +kernel
theorem dX12_ends_78 : decode cX12_ends 78 = .ok (.imul, 1) := by decide +kernel
theorem dX12_ends_79 : decode cX12_ends 79 = .ok (.iload_n 3, 1) := by decide +kernel
theorem dX12_ends_80 : decode cX12_ends 80 = .ok (.iadd, 1) := by decide +kernel
theorem dX12_ends_81 : decode cX12_ends 81 = .ok (.iaload, 1) := by decide +kernel
theorem dX12_ends_82 : decode cX12_ends 82 = .ok (.iastore, 1) := by decide +kernel
theorem dX12_ends_83 : decode cX12_ends 83 = .ok (.iinc 3 1, 3) := by decide +kernel
theorem dX12_ends_86 : decode cX12_ends 86 = .ok (.goto (-28), 3) := by decide +kernel
theorem dX12_ends_89 : decode cX12_ends 89 = .ok (.return_, 1) := by decide +kernel
theorem dX12_isTried_0 : decode cX12_isTried 0 = .ok (.iconst 0, 1) := by decide +kernel
theorem dX12_isTried_1 : decode cX12_isTried 1 = .ok (.istore_n 3, 1) := by decide +kernel
theorem dX12_isTried_2 : decode cX12_isTried 2 = .ok (.iconst 0, 1) := by decide +kernel
theorem dX12_isTried_3 : decode cX12_isTried 3 = .ok (.istore 4, 2) := by decide +kernel
theorem dX12_isTried_5 : decode cX12_isTried 5 = .ok (.iload 4, 2) := by decide +kernel
theorem dX12_isTried_7 : decode cX12_isTried 7 = .ok (.aload_n 0, 1) := by decide +kernel
theorem dX12_isTried_8 : decode cX12_isTried 8 = .ok (.getfield 131, 3) := by decide +kernel
theorem dX12_isTried_11 : decode cX12_isTried 11 = .ok (.iload_n 1, 1) := by decide +kernel
theorem dX12_isTried_12 : decode cX12_isTried 12 = .ok (.iaload, 1) := by decide +kernel
theorem dX12_isTried_13 : decode cX12_isTried 13 = .ok (.if_icmp .ge 35, 3) := by decide +kernel
theorem dX12_isTried_16 : decode cX12_isTried 16 = .ok (.iload_n 3, 1) := by decide +kernel
theorem dX12_isTried_17 : decode cX12_isTried 17 = .ok (.ifCond .ne 19, 3) := by decide +kernel
theorem dX12_isTried_20 : decode cX12_isTried 20 = .ok (.aload_n 0, 1) := by decide +kernel
theorem dX12_isTried_21 : decode cX12_isTried 21 = .ok (.getfield 128, 3) := by decide +kernel
theorem dX12_isTried_24 : decode cX12_isTried 24 = .ok (.bipush 64, 2) := by decide +kernel
theorem dX12_isTried_26 : decode cX12_isTried 26 = .ok (.iload_n 1, 1) := by decide +kernel
theorem dX12_isTried_27 : decode cX12_isTried 27 = .ok (.imul, 1) := by decide +kernel
theorem dX12_isTried_28 : decode cX12_isTried 28 = .ok (.iload 4, 2) := by decide +kernel
theorem dX12_isTried_30 : decode cX12_isTried 30 = .ok (.iadd, 1) := by decide +kernel
theorem dX12_isTried_31 : decode cX12_isTried 31 = .ok (.iaload, 1) := by decide +kernel
theorem dX12_isTried_32 : decode cX12_isTried 32 = .ok (.iload_n 2, 1) := by decide +kernel
theorem dX12_isTried_33 : decode cX12_isTried 33 = .ok (.if_icmp .ne 7, 3) := by decide +kernel
theorem dX12_isTried_36 : decode cX12_isTried 36 = .ok (.iconst 1, 1) := by decide +kernel
theorem dX12_isTried_37 : decode cX12_isTried 37 = .ok (.goto 4, 3) := by decide +kernel
theorem dX12_isTried_40 : decode cX12_isTried 40 = .ok (.iconst 0, 1) := by decide +kernel
theorem dX12_isTried_41 : decode cX12_isTried 41 = .ok (.istore_n 3, 1) := by decide +kernel
theorem dX12_isTried_42 : decode cX12_isTried 42 = .ok (.iinc 4 1, 3) := by decide +kernel
theorem dX12_isTried_45 : decode cX12_isTried 45 = .ok (.goto (-40), 3) := by decide +kernel
theorem dX12_isTried_48 : decode cX12_isTried 48 = .ok (.iload_n 3, 1) := by decide +kernel
theorem dX12_isTried_49 : decode cX12_isTried 49 = .ok (.ireturn, 1) := by decide +kernel
theorem dX12_sends_0 : decode cX12_sends 0 = .ok (.aload_n 0, 1) := by decide +kernel
theorem dX12_sends_1 : decode cX12_sends 1 = .ok (.getfield 380, 3) := by decide +kernel
theorem dX12_sends_4 : decode cX12_sends 4 = .ok (.bipush 40, 2) := by decide +kernel
theorem dX12_sends_6 : decode cX12_sends 6 = .ok (.if_icmp .ne 9, 3) := by decide +kernel
theorem dX12_sends_9 : decode cX12_sends 9 = .ok (.aload_n 0, 1) := by decide +kernel
theorem dX12_sends_10 : decode cX12_sends 10 = .ok (.iconst 3, 1) := by decide +kernel
theorem dX12_sends_11 : decode cX12_sends 11 = .ok (.putfield 137, 3) := by decide +kernel
theorem dX12_sends_14 : decode cX12_sends 14 = .ok (.return_, 1) := by decide +kernel
theorem dX12_sends_15 : decode cX12_sends 15 = .ok (.aload_n 0, 1) := by decide +kernel
theorem dX12_sends_16 : decode cX12_sends 16 = .ok (.getfield 128, 3) := by decide +kernel
theorem dX12_sends_19 : decode cX12_sends 19 = .ok (.bipush 64, 2) := by decide +kernel
theorem dX12_sends_21 : decode cX12_sends 21 = .ok (.iload_n 1, 1) := by decide +kernel
theorem dX12_sends_22 : decode cX12_sends 22 = .ok (.imul, 1) := by decide +kernel
theorem dX12_sends_23 : decode cX12_sends 23 = .ok (.aload_n 0, 1) := by decide +kernel
theorem dX12_sends_24 : decode cX12_sends 24 = .ok (.getfield 131, 3) := by decide +kernel
theorem dX12_sends_27 : decode cX12_sends 27 = .ok (.iload_n 1, 1) := by decide +kernel
theorem dX12_sends_28 : decode cX12_sends 28 = .ok (.iaload, 1) := by decide +kernel
theorem dX12_sends_29 : decode cX12_sends 29 = .ok (.iadd, 1) := by decide +kernel
theorem dX12_sends_30 : decode cX12_sends 30 = .ok (.iload_n 2, 1) := by decide +kernel
theorem dX12_sends_31 : decode cX12_sends 31 = .ok (.iastore, 1) := by decide +kernel
theorem dX12_sends_32 : decode cX12_sends 32 = .ok (.aload_n 0, 1) := by decide +kernel
theorem dX12_sends_33 : decode cX12_sends 33 = .ok (.getfield 131, 3) := by decide +kernel
theorem dX12_sends_36 : decode cX12_sends 36 = .ok (.iload_n 1, 1) := by decide +kernel
theorem dX12_sends_37 : decode cX12_sends 37 = .ok (.dup2, 1) := by decide +kernel
theorem dX12_sends_38 : decode cX12_sends 38 = .ok (.iaload, 1) := by decide +kernel
theorem dX12_sends_39 : decode cX12_sends 39 = .ok (.iconst 1, 1) := by decide +kernel
theorem dX12_sends_40 : decode cX12_sends 40 = .ok (.iadd, 1) := by decide +kernel
theorem dX12_sends_41 : decode cX12_sends 41 = .ok (.iastore, 1) := by decide +kernel
theorem dX12_sends_42 : decode cX12_sends 42 = .ok (.aload_n 0, 1) := by decide +kernel
theorem dX12_sends_43 : decode cX12_sends 43 = .ok (.iconst 1, 1) := by decide +kernel
theorem dX12_sends_44 : decode cX12_sends 44 = .ok (.putfield 383, 3) := by decide +kernel
theorem dX12_sends_47 : decode cX12_sends 47 = .ok (.aload_n 0, 1) := by decide +kernel
theorem dX12_sends_48 : decode cX12_sends 48 = .ok (.iload_n 2, 1) := by decide +kernel
theorem dX12_sends_49 : decode cX12_sends 49 = .ok (.putfield 387, 3) := by decide +kernel
theorem dX12_sends_52 : decode cX12_sends 52 = .ok (.aload_n 0, 1) := by decide +kernel
theorem dX12_sends_53 : decode cX12_sends 53 = .ok (.aload_n 0, 1) := by decide +kernel
theorem dX12_sends_54 : decode cX12_sends 54 = .ok (.getfield 140, 3) := by decide +kernel
theorem dX12_sends_57 : decode cX12_sends 57 = .ok (.putfield 390, 3) := by decide +kernel
theorem dX12_sends_60 : decode cX12_sends 60 = .ok (.aload_n 0, 1) := by decide +kernel
theorem dX12_sends_61 : decode cX12_sends 61 = .ok (.aload_n 0, 1) := by decide +kernel
theorem dX12_sends_62 : decode cX12_sends 62 = .ok (.getfield 140, 3) := by decide +kernel
theorem dX12_sends_65 : decode cX12_sends 65 = .ok (.iconst 1, 1) := by decide +kernel
theorem dX12_sends_66 : decode cX12_sends 66 = .ok (.iadd, 1) := by decide +kernel
theorem dX12_sends_67 : decode cX12_sends 67 = .ok (.ldc_w 393, 3) := by decide +kernel
theorem dX12_sends_70 : decode cX12_sends 70 = .ok (.iand, 1) := by decide +kernel
theorem dX12_sends_71 : decode cX12_sends 71 = .ok (.putfield 140, 3) := by decide +kernel
theorem dX12_sends_74 : decode cX12_sends 74 = .ok (.aload_n 0, 1) := by decide +kernel
theorem dX12_sends_75 : decode cX12_sends 75 = .ok (.dup, 1) := by decide +kernel
theorem dX12_sends_76 : decode cX12_sends 76 = .ok (.getfield 380, 3) := by decide +kernel
theorem dX12_sends_79 : decode cX12_sends 79 = .ok (.iconst 1, 1) := by decide +kernel
theorem dX12_sends_80 : decode cX12_sends 80 = .ok (.iadd, 1) := by decide +kernel
theorem dX12_sends_81 : decode cX12_sends 81 = .ok (.putfield 380, 3) := by decide +kernel
theorem dX12_sends_84 : decode cX12_sends 84 = .ok (.aload_n 0, 1) := by decide +kernel
theorem dX12_sends_85 : decode cX12_sends 85 = .ok (.dup, 1) := by decide +kernel
theorem dX12_sends_86 : decode cX12_sends 86 = .ok (.getfield 394, 3) := by decide +kernel
theorem dX12_sends_89 : decode cX12_sends 89 = .ok (.iconst 1, 1) := by decide +kernel
theorem dX12_sends_90 : decode cX12_sends 90 = .ok (.iadd, 1) := by decide +kernel
theorem dX12_sends_91 : decode cX12_sends 91 = .ok (.putfield 394, 3) := by decide +kernel
theorem dX12_sends_94 : decode cX12_sends 94 = .ok (.return_, 1) := by decide +kernel
theorem dX12_tries_0 : decode cX12_tries 0 = .ok (.iload_n 2, 1) := by decide +kernel
theorem dX12_tries_1 : decode cX12_tries 1 = .ok (.ifCond .ge 51, 3) := by decide +kernel
theorem dX12_tries_4 : decode cX12_tries 4 = .ok (.iconst 0, 1) := by decide +kernel
theorem dX12_tries_5 : decode cX12_tries 5 = .ok (.istore_n 3, 1) := by decide +kernel
theorem dX12_tries_6 : decode cX12_tries 6 = .ok (.iload_n 3, 1) := by decide +kernel
theorem dX12_tries_7 : decode cX12_tries 7 = .ok (.aload_n 0, 1) := by decide +kernel
theorem dX12_tries_8 : decode cX12_tries 8 = .ok (.getfield 226, 3) := by decide +kernel
theorem dX12_tries_11 : decode cX12_tries 11 = .ok (.if_icmp .ge 39, 3) := by decide +kernel
theorem dX12_tries_14 : decode cX12_tries 14 = .ok (.aload_n 0, 1) := by decide +kernel
theorem dX12_tries_15 : decode cX12_tries 15 = .ok (.iload_n 1, 1) := by decide +kernel
theorem dX12_tries_16 : decode cX12_tries 16 = .ok (.aload_n 0, 1) := by decide +kernel
theorem dX12_tries_17 : decode cX12_tries 17 = .ok (.getfield 67, 3) := by decide +kernel
theorem dX12_tries_20 : decode cX12_tries 20 = .ok (.iload_n 3, 1) := by decide +kernel
theorem dX12_tries_21 : decode cX12_tries 21 = .ok (.iaload, 1) := by decide +kernel
theorem dX12_tries_22 : decode cX12_tries 22 = .ok (.invokevirtual 397, 3) := by decide +kernel
theorem dX12_tries_25 : decode cX12_tries 25 = .ok (.ifCond .eq 6, 3) := by decide +kernel
theorem dX12_tries_28 : decode cX12_tries 28 = .ok (.goto 16, 3) := by decide +kernel
theorem dX12_tries_31 : decode cX12_tries 31 = .ok (.aload_n 0, 1) := by decide +kernel
theorem dX12_tries_32 : decode cX12_tries 32 = .ok (.iload_n 1, 1) := by decide +kernel
theorem dX12_tries_33 : decode cX12_tries 33 = .ok (.aload_n 0, 1) := by decide +kernel
theorem dX12_tries_34 : decode cX12_tries 34 = .ok (.getfield 67, 3) := by decide +kernel
theorem dX12_tries_37 : decode cX12_tries 37 = .ok (.iload_n 3, 1) := by decide +kernel
theorem dX12_tries_38 : decode cX12_tries 38 = .ok (.iaload, 1) := by decide +kernel
theorem dX12_tries_39 : decode cX12_tries 39 = .ok (.invokevirtual 400, 3) := by decide +kernel
theorem dX12_tries_42 : decode cX12_tries 42 = .ok (.iconst 1, 1) := by decide +kernel
theorem dX12_tries_43 : decode cX12_tries 43 = .ok (.ireturn, 1) := by decide +kernel
theorem dX12_tries_44 : decode cX12_tries 44 = .ok (.iinc 3 1, 3) := by decide +kernel
theorem dX12_tries_47 : decode cX12_tries 47 = .ok (.goto (-41), 3) := by decide +kernel
theorem dX12_tries_50 : decode cX12_tries 50 = .ok (.iconst 0, 1) := by decide +kernel
theorem dX12_tries_51 : decode cX12_tries 51 = .ok (.ireturn, 1) := by decide +kernel
theorem dX12_tries_52 : decode cX12_tries 52 = .ok (.iconst 0, 1) := by decide +kernel
theorem dX12_tries_53 : decode cX12_tries 53 = .ok (.istore_n 3, 1) := by decide +kernel
theorem dX12_tries_54 : decode cX12_tries 54 = .ok (.iload_n 3, 1) := by decide +kernel
theorem dX12_tries_55 : decode cX12_tries 55 = .ok (.aload_n 0, 1) := by decide +kernel
theorem dX12_tries_56 : decode cX12_tries 56 = .ok (.getfield 103, 3) := by decide +kernel
theorem dX12_tries_59 : decode cX12_tries 59 = .ok (.iload_n 2, 1) := by decide +kernel
theorem dX12_tries_60 : decode cX12_tries 60 = .ok (.iaload, 1) := by decide +kernel
theorem dX12_tries_61 : decode cX12_tries 61 = .ok (.if_icmp .ge 97, 3) := by decide +kernel
theorem dX12_tries_64 : decode cX12_tries 64 = .ok (.aload_n 0, 1) := by decide +kernel
theorem dX12_tries_65 : decode cX12_tries 65 = .ok (.aload_n 0, 1) := by decide +kernel
theorem dX12_tries_66 : decode cX12_tries 66 = .ok (.getfield 106, 3) := by decide +kernel
theorem dX12_tries_69 : decode cX12_tries 69 = .ok (.bipush 10, 2) := by decide +kernel
theorem dX12_tries_71 : decode cX12_tries 71 = .ok (.iload_n 2, 1) := by decide +kernel
theorem dX12_tries_72 : decode cX12_tries 72 = .ok (.imul, 1) := by decide +kernel
theorem dX12_tries_73 : decode cX12_tries 73 = .ok (.iload_n 3, 1) := by decide +kernel
theorem dX12_tries_74 : decode cX12_tries 74 = .ok (.iadd, 1) := by decide +kernel
theorem dX12_tries_75 : decode cX12_tries 75 = .ok (.iaload, 1) := by decide +kernel
theorem dX12_tries_76 : decode cX12_tries 76 = .ok (.iconst 1, 1) := by decide +kernel
theorem dX12_tries_77 : decode cX12_tries 77 = .ok (.invokevirtual 374, 3) := by decide +kernel
theorem dX12_tries_80 : decode cX12_tries 80 = .ok (.istore 4, 2) := by decide +kernel
theorem dX12_tries_82 : decode cX12_tries 82 = .ok (.iconst 0, 1) := by decide +kernel
theorem dX12_tries_83 : decode cX12_tries 83 = .ok (.istore 5, 2) := by decide +kernel
theorem dX12_tries_85 : decode cX12_tries 85 = .ok (.iload 4, 2) := by decide +kernel
theorem dX12_tries_87 : decode cX12_tries 87 = .ok (.ifCond .lt 65, 3) := by decide +kernel
theorem dX12_tries_90 : decode cX12_tries 90 = .ok (.iload 5, 2) := by decide +kernel
theorem dX12_tries_92 : decode cX12_tries 92 = .ok (.aload_n 0, 1) := by decide +kernel
theorem dX12_tries_93 : decode cX12_tries 93 = .ok (.getfield 103, 3) := by decide +kernel
theorem dX12_tries_96 : decode cX12_tries 96 = .ok (.iload 4, 2) := by decide +kernel
theorem dX12_tries_98 : decode cX12_tries 98 = .ok (.iaload, 1) := by decide +kernel
theorem dX12_tries_99 : decode cX12_tries 99 = .ok (.if_icmp .ge 53, 3) := by decide +kernel
theorem dX12_tries_102 : decode cX12_tries 102 = .ok (.aload_n 0, 1) := by decide +kernel
theorem dX12_tries_103 : decode cX12_tries 103 = .ok (.iload_n 1, 1) := by decide +kernel
theorem dX12_tries_104 : decode cX12_tries 104 = .ok (.aload_n 0, 1) := by decide +kernel
theorem dX12_tries_105 : decode cX12_tries 105 = .ok (.getfield 106, 3) := by decide +kernel
theorem dX12_tries_108 : decode cX12_tries 108 = .ok (.bipush 10, 2) := by decide +kernel
theorem dX12_tries_110 : decode cX12_tries 110 = .ok (.iload 4, 2) := by decide +kernel
theorem dX12_tries_112 : decode cX12_tries 112 = .ok (.imul, 1) := by decide +kernel
theorem dX12_tries_113 : decode cX12_tries 113 = .ok (.iload 5, 2) := by decide +kernel
theorem dX12_tries_115 : decode cX12_tries 115 = .ok (.iadd, 1) := by decide +kernel
theorem dX12_tries_116 : decode cX12_tries 116 = .ok (.iaload, 1) := by decide +kernel
theorem dX12_tries_117 : decode cX12_tries 117 = .ok (.invokevirtual 397, 3) := by decide +kernel
theorem dX12_tries_120 : decode cX12_tries 120 = .ok (.ifCond .eq 6, 3) := by decide +kernel
theorem dX12_tries_123 : decode cX12_tries 123 = .ok (.goto 23, 3) := by decide +kernel
theorem dX12_tries_126 : decode cX12_tries 126 = .ok (.aload_n 0, 1) := by decide +kernel
theorem dX12_tries_127 : decode cX12_tries 127 = .ok (.iload_n 1, 1) := by decide +kernel
theorem dX12_tries_128 : decode cX12_tries 128 = .ok (.aload_n 0, 1) := by decide +kernel
theorem dX12_tries_129 : decode cX12_tries 129 = .ok (.getfield 106, 3) := by decide +kernel
theorem dX12_tries_132 : decode cX12_tries 132 = .ok (.bipush 10, 2) := by decide +kernel
theorem dX12_tries_134 : decode cX12_tries 134 = .ok (.iload 4, 2) := by decide +kernel
theorem dX12_tries_136 : decode cX12_tries 136 = .ok (.imul, 1) := by decide +kernel
theorem dX12_tries_137 : decode cX12_tries 137 = .ok (.iload 5, 2) := by decide +kernel
theorem dX12_tries_139 : decode cX12_tries 139 = .ok (.iadd, 1) := by decide +kernel
theorem dX12_tries_140 : decode cX12_tries 140 = .ok (.iaload, 1) := by decide +kernel
theorem dX12_tries_141 : decode cX12_tries 141 = .ok (.invokevirtual 400, 3) := by decide +kernel
theorem dX12_tries_144 : decode cX12_tries 144 = .ok (.iconst 1, 1) := by decide +kernel
theorem dX12_tries_145 : decode cX12_tries 145 = .ok (.ireturn, 1) := by decide +kernel
theorem dX12_tries_146 : decode cX12_tries 146 = .ok (.iinc 5 1, 3) := by decide +kernel
theorem dX12_tries_149 : decode cX12_tries 149 = .ok (.goto (-64), 3) := by decide +kernel
theorem dX12_tries_152 : decode cX12_tries 152 = .ok (.iinc 3 1, 3) := by decide +kernel
theorem dX12_tries_155 : decode cX12_tries 155 = .ok (.goto (-101), 3) := by decide +kernel
theorem dX12_tries_158 : decode cX12_tries 158 = .ok (.iconst 0, 1) := by decide +kernel
theorem dX12_tries_159 : decode cX12_tries 159 = .ok (.ireturn, 1) := by decide +kernel
theorem dX12_sendsFor_0 : decode cX12_sendsFor 0 = .ok (.iconst 0, 1) := by decide +kernel
theorem dX12_sendsFor_1 : decode cX12_sendsFor 1 = .ok (.istore_n 3, 1) := by decide +kernel
theorem dX12_sendsFor_2 : decode cX12_sendsFor 2 = .ok (.iload_n 2, 1) := by decide +kernel
theorem dX12_sendsFor_3 : decode cX12_sendsFor 3 = .ok (.ifCond .lt 99, 3) := by decide +kernel
theorem dX12_sendsFor_6 : decode cX12_sendsFor 6 = .ok (.iload_n 3, 1) := by decide +kernel
theorem dX12_sendsFor_7 : decode cX12_sendsFor 7 = .ok (.aload_n 0, 1) := by decide +kernel
theorem dX12_sendsFor_8 : decode cX12_sendsFor 8 = .ok (.getfield 103, 3) := by decide +kernel
theorem dX12_sendsFor_11 : decode cX12_sendsFor 11 = .ok (.iload_n 2, 1) := by decide +kernel
theorem dX12_sendsFor_12 : decode cX12_sendsFor 12 = .ok (.iaload, 1) := by decide +kernel
theorem dX12_sendsFor_13 : decode cX12_sendsFor 13 = .ok (.if_icmp .ge 89, 3) := by decide +kernel
theorem dX12_sendsFor_16 : decode cX12_sendsFor 16 = .ok (.aload_n 0, 1) := by decide +kernel
theorem dX12_sendsFor_17 : decode cX12_sendsFor 17 = .ok (.getfield 106, 3) := by decide +kernel
theorem dX12_sendsFor_20 : decode cX12_sendsFor 20 = .ok (.bipush 10, 2) := by decide +kernel
theorem dX12_sendsFor_22 : decode cX12_sendsFor 22 = .ok (.iload_n 2, 1) := by decide +kernel
theorem dX12_sendsFor_23 : decode cX12_sendsFor 23 = .ok (.imul, 1) := by decide +kernel
theorem dX12_sendsFor_24 : decode cX12_sendsFor 24 = .ok (.iload_n 3, 1) := by decide +kernel
theorem dX12_sendsFor_25 : decode cX12_sendsFor 25 = .ok (.iadd, 1) := by decide +kernel
theorem dX12_sendsFor_26 : decode cX12_sendsFor 26 = .ok (.iaload, 1) := by decide +kernel
theorem dX12_sendsFor_27 : decode cX12_sendsFor 27 = .ok (.istore 4, 2) := by decide +kernel
theorem dX12_sendsFor_29 : decode cX12_sendsFor 29 = .ok (.aload_n 0, 1) := by decide +kernel
theorem dX12_sendsFor_30 : decode cX12_sendsFor 30 = .ok (.iload 4, 2) := by decide +kernel
theorem dX12_sendsFor_32 : decode cX12_sendsFor 32 = .ok (.iconst 1, 1) := by decide +kernel
theorem dX12_sendsFor_33 : decode cX12_sendsFor 33 = .ok (.invokevirtual 374, 3) := by decide +kernel
theorem dX12_sendsFor_36 : decode cX12_sendsFor 36 = .ok (.ifCond .ge 60, 3) := by decide +kernel
theorem dX12_sendsFor_39 : decode cX12_sendsFor 39 = .ok (.aload_n 0, 1) := by decide +kernel
theorem dX12_sendsFor_40 : decode cX12_sendsFor 40 = .ok (.getfield 134, 3) := by decide +kernel
theorem dX12_sendsFor_43 : decode cX12_sendsFor 43 = .ok (.sipush 300, 3) := by decide +kernel
theorem dX12_sendsFor_46 : decode cX12_sendsFor 46 = .ok (.iload_n 1, 1) := by decide +kernel
theorem dX12_sendsFor_47 : decode cX12_sendsFor 47 = .ok (.imul, 1) := by decide +kernel
theorem dX12_sendsFor_48 : decode cX12_sendsFor 48 = .ok (.iload 4, 2) := by decide +kernel
theorem dX12_sendsFor_50 : decode cX12_sendsFor 50 = .ok (.iadd, 1) := by decide +kernel
theorem dX12_sendsFor_51 : decode cX12_sendsFor 51 = .ok (.baload, 1) := by decide +kernel
theorem dX12_sendsFor_52 : decode cX12_sendsFor 52 = .ok (.ifCond .eq 6, 3) := by decide +kernel
theorem dX12_sendsFor_55 : decode cX12_sendsFor 55 = .ok (.goto 41, 3) := by decide +kernel
theorem dX12_sendsFor_58 : decode cX12_sendsFor 58 = .ok (.aload_n 0, 1) := by decide +kernel
theorem dX12_sendsFor_59 : decode cX12_sendsFor 59 = .ok (.getfield 368, 3) := by decide +kernel
theorem dX12_sendsFor_62 : decode cX12_sendsFor 62 = .ok (.iconst 4, 1) := by decide +kernel
theorem dX12_sendsFor_63 : decode cX12_sendsFor 63 = .ok (.if_icmp .ne 10, 3) := by decide +kernel
theorem dX12_sendsFor_66 : decode cX12_sendsFor 66 = .ok (.aload_n 0, 1) := by decide +kernel
theorem dX12_sendsFor_67 : decode cX12_sendsFor 67 = .ok (.iconst 3, 1) := by decide +kernel
theorem dX12_sendsFor_68 : decode cX12_sendsFor 68 = .ok (.invokevirtual 404, 3) := by decide +kernel
theorem dX12_sendsFor_71 : decode cX12_sendsFor 71 = .ok (.iconst 1, 1) := by decide +kernel
theorem dX12_sendsFor_72 : decode cX12_sendsFor 72 = .ok (.ireturn, 1) := by decide +kernel
theorem dX12_sendsFor_73 : decode cX12_sendsFor 73 = .ok (.aload_n 0, 1) := by decide +kernel
theorem dX12_sendsFor_74 : decode cX12_sendsFor 74 = .ok (.getfield 134, 3) := by decide +kernel
theorem dX12_sendsFor_77 : decode cX12_sendsFor 77 = .ok (.sipush 300, 3) := by decide +kernel
theorem dX12_sendsFor_80 : decode cX12_sendsFor 80 = .ok (.iload_n 1, 1) := by decide +kernel
theorem dX12_sendsFor_81 : decode cX12_sendsFor 81 = .ok (.imul, 1) := by decide +kernel
theorem dX12_sendsFor_82 : decode cX12_sendsFor 82 = .ok (.iload 4, 2) := by decide +kernel
theorem dX12_sendsFor_84 : decode cX12_sendsFor 84 = .ok (.iadd, 1) := by decide +kernel
theorem dX12_sendsFor_85 : decode cX12_sendsFor 85 = .ok (.iconst 1, 1) := by decide +kernel
theorem dX12_sendsFor_86 : decode cX12_sendsFor 86 = .ok (.bastore, 1) := by decide +kernel
theorem dX12_sendsFor_87 : decode cX12_sendsFor 87 = .ok (.aload_n 0, 1) := by decide +kernel
theorem dX12_sendsFor_88 : decode cX12_sendsFor 88 = .ok (.iload 4, 2) := by decide +kernel
theorem dX12_sendsFor_90 : decode cX12_sendsFor 90 = .ok (.iconst 1, 1) := by decide +kernel
theorem dX12_sendsFor_91 : decode cX12_sendsFor 91 = .ok (.invokevirtual 407, 3) := by decide +kernel
theorem dX12_sendsFor_94 : decode cX12_sendsFor 94 = .ok (.iconst 1, 1) := by decide +kernel
theorem dX12_sendsFor_95 : decode cX12_sendsFor 95 = .ok (.ireturn, 1) := by decide +kernel
theorem dX12_sendsFor_96 : decode cX12_sendsFor 96 = .ok (.iinc 3 1, 3) := by decide +kernel
theorem dX12_sendsFor_99 : decode cX12_sendsFor 99 = .ok (.goto (-97), 3) := by decide +kernel
theorem dX12_sendsFor_102 : decode cX12_sendsFor 102 = .ok (.iconst 0, 1) := by decide +kernel
theorem dX12_sendsFor_103 : decode cX12_sendsFor 103 = .ok (.ireturn, 1) := by decide +kernel
theorem dX12_knows_0 : decode cX12_knows 0 = .ok (.aload_n 0, 1) := by decide +kernel
theorem dX12_knows_1 : decode cX12_knows 1 = .ok (.getfield 119, 3) := by decide +kernel
theorem dX12_knows_4 : decode cX12_knows 4 = .ok (.iload_n 1, 1) := by decide +kernel
theorem dX12_knows_5 : decode cX12_knows 5 = .ok (.iaload, 1) := by decide +kernel
theorem dX12_knows_6 : decode cX12_knows 6 = .ok (.iconst 5, 1) := by decide +kernel
theorem dX12_knows_7 : decode cX12_knows 7 = .ok (.if_icmp .ne 7, 3) := by decide +kernel
theorem dX12_knows_10 : decode cX12_knows 10 = .ok (.iconst (-1), 1) := by decide +kernel
theorem dX12_knows_11 : decode cX12_knows 11 = .ok (.goto 14, 3) := by decide +kernel
theorem dX12_knows_14 : decode cX12_knows 14 = .ok (.aload_n 0, 1) := by decide +kernel
theorem dX12_knows_15 : decode cX12_knows 15 = .ok (.aload_n 0, 1) := by decide +kernel
theorem dX12_knows_16 : decode cX12_knows 16 = .ok (.getfield 116, 3) := by decide +kernel
theorem dX12_knows_19 : decode cX12_knows 19 = .ok (.iload_n 1, 1) := by decide +kernel
theorem dX12_knows_20 : decode cX12_knows 20 = .ok (.iaload, 1) := by decide +kernel
theorem dX12_knows_21 : decode cX12_knows 21 = .ok (.iconst 5, 1) := by decide +kernel
theorem dX12_knows_22 : decode cX12_knows 22 = .ok (.invokevirtual 374, 3) := by decide +kernel
theorem dX12_knows_25 : decode cX12_knows 25 = .ok (.istore_n 2, 1) := by decide +kernel
theorem dX12_knows_26 : decode cX12_knows 26 = .ok (.aload_n 0, 1) := by decide +kernel
theorem dX12_knows_27 : decode cX12_knows 27 = .ok (.aload_n 0, 1) := by decide +kernel
theorem dX12_knows_28 : decode cX12_knows 28 = .ok (.getfield 116, 3) := by decide +kernel
theorem dX12_knows_31 : decode cX12_knows 31 = .ok (.iload_n 1, 1) := by decide +kernel
theorem dX12_knows_32 : decode cX12_knows 32 = .ok (.iaload, 1) := by decide +kernel
theorem dX12_knows_33 : decode cX12_knows 33 = .ok (.aload_n 0, 1) := by decide +kernel
theorem dX12_knows_34 : decode cX12_knows 34 = .ok (.getfield 119, 3) := by decide +kernel
theorem dX12_knows_37 : decode cX12_knows 37 = .ok (.iload_n 1, 1) := by decide +kernel
theorem dX12_knows_38 : decode cX12_knows 38 = .ok (.iaload, 1) := by decide +kernel
theorem dX12_knows_39 : decode cX12_knows 39 = .ok (.invokevirtual 374, 3) := by decide +kernel
theorem dX12_knows_42 : decode cX12_knows 42 = .ok (.ifCond .lt 11, 3) := by decide +kernel
theorem dX12_knows_45 : decode cX12_knows 45 = .ok (.aload_n 0, 1) := by decide +kernel
theorem dX12_knows_46 : decode cX12_knows 46 = .ok (.iconst 0, 1) := by decide +kernel
theorem dX12_knows_47 : decode cX12_knows 47 = .ok (.invokevirtual 404, 3) := by decide +kernel
theorem dX12_knows_50 : decode cX12_knows 50 = .ok (.goto 114, 3) := by decide +kernel
theorem dX12_knows_53 : decode cX12_knows 53 = .ok (.iload_n 2, 1) := by decide +kernel
theorem dX12_knows_54 : decode cX12_knows 54 = .ok (.ifCond .lt 22, 3) := by decide +kernel
theorem dX12_knows_57 : decode cX12_knows 57 = .ok (.aload_n 0, 1) := by decide +kernel
theorem dX12_knows_58 : decode cX12_knows 58 = .ok (.getfield 122, 3) := by decide +kernel
theorem dX12_knows_61 : decode cX12_knows 61 = .ok (.iload_n 1, 1) := by decide +kernel
theorem dX12_knows_62 : decode cX12_knows 62 = .ok (.iaload, 1) := by decide +kernel
theorem dX12_knows_63 : decode cX12_knows 63 = .ok (.bipush 8, 2) := by decide +kernel
theorem dX12_knows_65 : decode cX12_knows 65 = .ok (.if_icmp .ne 11, 3) := by decide +kernel
theorem dX12_knows_68 : decode cX12_knows 68 = .ok (.aload_n 0, 1) := by decide +kernel
theorem dX12_knows_69 : decode cX12_knows 69 = .ok (.iconst 3, 1) := by decide +kernel
theorem dX12_knows_70 : decode cX12_knows 70 = .ok (.invokevirtual 404, 3) := by decide +kernel
theorem dX12_knows_73 : decode cX12_knows 73 = .ok (.goto 91, 3) := by decide +kernel
theorem dX12_knows_76 : decode cX12_knows 76 = .ok (.iload_n 2, 1) := by decide +kernel
theorem dX12_knows_77 : decode cX12_knows 77 = .ok (.ifCond .lt 36, 3) := by decide +kernel
theorem dX12_knows_80 : decode cX12_knows 80 = .ok (.aload_n 0, 1) := by decide +kernel
theorem dX12_knows_81 : decode cX12_knows 81 = .ok (.getfield 116, 3) := by decide +kernel
theorem dX12_knows_84 : decode cX12_knows 84 = .ok (.iload_n 1, 1) := by decide +kernel
theorem dX12_knows_85 : decode cX12_knows 85 = .ok (.aload_n 0, 1) := by decide +kernel
theorem dX12_knows_86 : decode cX12_knows 86 = .ok (.getfield 106, 3) := by decide +kernel
theorem dX12_knows_89 : decode cX12_knows 89 = .ok (.bipush 10, 2) := by decide +kernel
theorem dX12_knows_91 : decode cX12_knows 91 = .ok (.iload_n 2, 1) := by decide +kernel
theorem dX12_knows_92 : decode cX12_knows 92 = .ok (.imul, 1) := by decide +kernel
theorem dX12_knows_93 : decode cX12_knows 93 = .ok (.iaload, 1) := by decide +kernel
theorem dX12_knows_94 : decode cX12_knows 94 = .ok (.iastore, 1) := by decide +kernel
theorem dX12_knows_95 : decode cX12_knows 95 = .ok (.aload_n 0, 1) := by decide +kernel
theorem dX12_knows_96 : decode cX12_knows 96 = .ok (.getfield 122, 3) := by decide +kernel
theorem dX12_knows_99 : decode cX12_knows 99 = .ok (.iload_n 1, 1) := by decide +kernel
theorem dX12_knows_100 : decode cX12_knows 100 = .ok (.dup2, 1) := by decide +kernel
theorem dX12_knows_101 : decode cX12_knows 101 = .ok (.iaload, 1) := by decide +kernel
theorem dX12_knows_102 : decode cX12_knows 102 = .ok (.iconst 1, 1) := by decide +kernel
theorem dX12_knows_103 : decode cX12_knows 103 = .ok (.iadd, 1) := by decide +kernel
theorem dX12_knows_104 : decode cX12_knows 104 = .ok (.iastore, 1) := by decide +kernel
theorem dX12_knows_105 : decode cX12_knows 105 = .ok (.aload_n 0, 1) := by decide +kernel
theorem dX12_knows_106 : decode cX12_knows 106 = .ok (.iload_n 1, 1) := by decide +kernel
theorem dX12_knows_107 : decode cX12_knows 107 = .ok (.invokevirtual 371, 3) := by decide +kernel
theorem dX12_knows_110 : decode cX12_knows 110 = .ok (.goto 54, 3) := by decide +kernel
theorem dX12_knows_113 : decode cX12_knows 113 = .ok (.aload_n 0, 1) := by decide +kernel
theorem dX12_knows_114 : decode cX12_knows 114 = .ok (.aload_n 0, 1) := by decide +kernel
theorem dX12_knows_115 : decode cX12_knows 115 = .ok (.getfield 116, 3) := by decide +kernel
theorem dX12_knows_118 : decode cX12_knows 118 = .ok (.iload_n 1, 1) := by decide +kernel
theorem dX12_knows_119 : decode cX12_knows 119 = .ok (.iaload, 1) := by decide +kernel
theorem dX12_knows_120 : decode cX12_knows 120 = .ok (.iconst 0, 1) := by decide +kernel
theorem dX12_knows_121 : decode cX12_knows 121 = .ok (.invokevirtual 410, 3) := by decide +kernel
theorem dX12_knows_124 : decode cX12_knows 124 = .ok (.ifCond .eq 11, 3) := by decide +kernel
theorem dX12_knows_127 : decode cX12_knows 127 = .ok (.aload_n 0, 1) := by decide +kernel
theorem dX12_knows_128 : decode cX12_knows 128 = .ok (.iconst 2, 1) := by decide +kernel
theorem dX12_knows_129 : decode cX12_knows 129 = .ok (.invokevirtual 404, 3) := by decide +kernel
theorem dX12_knows_132 : decode cX12_knows 132 = .ok (.goto 32, 3) := by decide +kernel
theorem dX12_knows_135 : decode cX12_knows 135 = .ok (.aload_n 0, 1) := by decide +kernel
theorem dX12_knows_136 : decode cX12_knows 136 = .ok (.aload_n 0, 1) := by decide +kernel
theorem dX12_knows_137 : decode cX12_knows 137 = .ok (.getfield 116, 3) := by decide +kernel
theorem dX12_knows_140 : decode cX12_knows 140 = .ok (.iload_n 1, 1) := by decide +kernel
theorem dX12_knows_141 : decode cX12_knows 141 = .ok (.iaload, 1) := by decide +kernel
theorem dX12_knows_142 : decode cX12_knows 142 = .ok (.aload_n 0, 1) := by decide +kernel
theorem dX12_knows_143 : decode cX12_knows 143 = .ok (.getfield 119, 3) := by decide +kernel
theorem dX12_knows_146 : decode cX12_knows 146 = .ok (.iload_n 1, 1) := by decide +kernel
theorem dX12_knows_147 : decode cX12_knows 147 = .ok (.iaload, 1) := by decide +kernel
theorem dX12_knows_148 : decode cX12_knows 148 = .ok (.invokevirtual 410, 3) := by decide +kernel
theorem dX12_knows_151 : decode cX12_knows 151 = .ok (.ifCond .eq 11, 3) := by decide +kernel
theorem dX12_knows_154 : decode cX12_knows 154 = .ok (.aload_n 0, 1) := by decide +kernel
theorem dX12_knows_155 : decode cX12_knows 155 = .ok (.iconst 1, 1) := by decide +kernel
theorem dX12_knows_156 : decode cX12_knows 156 = .ok (.invokevirtual 404, 3) := by decide +kernel
theorem dX12_knows_159 : decode cX12_knows 159 = .ok (.goto 5, 3) := by decide +kernel
theorem dX12_knows_162 : decode cX12_knows 162 = .ok (.iconst 0, 1) := by decide +kernel
theorem dX12_knows_163 : decode cX12_knows 163 = .ok (.ireturn, 1) := by decide +kernel
theorem dX12_knows_164 : decode cX12_knows 164 = .ok (.iconst 1, 1) := by decide +kernel
theorem dX12_knows_165 : decode cX12_knows 165 = .ok (.ireturn, 1) := by decide +kernel
theorem dX12_goes_0 : decode cX12_goes 0 = .ok (.aload_n 0, 1) := by decide +kernel
theorem dX12_goes_1 : decode cX12_goes 1 = .ok (.iconst 0, 1) := by decide +kernel
theorem dX12_goes_2 : decode cX12_goes 2 = .ok (.putfield 383, 3) := by decide +kernel
theorem dX12_goes_5 : decode cX12_goes 5 = .ok (.aload_n 0, 1) := by decide +kernel
theorem dX12_goes_6 : decode cX12_goes 6 = .ok (.getfield 137, 3) := by decide +kernel
theorem dX12_goes_9 : decode cX12_goes 9 = .ok (.iconst 4, 1) := by decide +kernel
theorem dX12_goes_10 : decode cX12_goes 10 = .ok (.if_icmp .ne 113, 3) := by decide +kernel
theorem dX12_goes_13 : decode cX12_goes 13 = .ok (.aload_n 0, 1) := by decide +kernel
theorem dX12_goes_14 : decode cX12_goes 14 = .ok (.getfield 383, 3) := by decide +kernel
theorem dX12_goes_17 : decode cX12_goes 17 = .ok (.ifCond .ne 106, 3) := by decide +kernel
theorem dX12_goes_20 : decode cX12_goes 20 = .ok (.aload_n 0, 1) := by decide +kernel
theorem dX12_goes_21 : decode cX12_goes 21 = .ok (.getfield 368, 3) := by decide +kernel
theorem dX12_goes_24 : decode cX12_goes 24 = .ok (.iconst 1, 1) := by decide +kernel
theorem dX12_goes_25 : decode cX12_goes 25 = .ok (.isub, 1) := by decide +kernel
theorem dX12_goes_26 : decode cX12_goes 26 = .ok (.istore_n 1, 1) := by decide +kernel
theorem dX12_goes_27 : decode cX12_goes 27 = .ok (.aload_n 0, 1) := by decide +kernel
theorem dX12_goes_28 : decode cX12_goes 28 = .ok (.iload_n 1, 1) := by decide +kernel
theorem dX12_goes_29 : decode cX12_goes 29 = .ok (.invokevirtual 413, 3) := by decide +kernel
theorem dX12_goes_32 : decode cX12_goes 32 = .ok (.ifCond .eq 6, 3) := by decide +kernel
theorem dX12_goes_35 : decode cX12_goes 35 = .ok (.goto (-30), 3) := by decide +kernel
theorem dX12_goes_38 : decode cX12_goes 38 = .ok (.aload_n 0, 1) := by decide +kernel
theorem dX12_goes_39 : decode cX12_goes 39 = .ok (.getfield 116, 3) := by decide +kernel
theorem dX12_goes_42 : decode cX12_goes 42 = .ok (.iload_n 1, 1) := by decide +kernel
theorem dX12_goes_43 : decode cX12_goes 43 = .ok (.iaload, 1) := by decide +kernel
theorem dX12_goes_44 : decode cX12_goes 44 = .ok (.istore_n 2, 1) := by decide +kernel
theorem dX12_goes_45 : decode cX12_goes 45 = .ok (.iload_n 2, 1) := by decide +kernel
theorem dX12_goes_46 : decode cX12_goes 46 = .ok (.ifCond .le 22, 3) := by decide +kernel
theorem dX12_goes_49 : decode cX12_goes 49 = .ok (.aload_n 0, 1) := by decide +kernel
theorem dX12_goes_50 : decode cX12_goes 50 = .ok (.iload_n 2, 1) := by decide +kernel
theorem dX12_goes_51 : decode cX12_goes 51 = .ok (.iconst 2, 1) := by decide +kernel
theorem dX12_goes_52 : decode cX12_goes 52 = .ok (.invokevirtual 374, 3) := by decide +kernel
theorem dX12_goes_55 : decode cX12_goes 55 = .ok (.ifCond .ge 13, 3) := by decide +kernel
theorem dX12_goes_58 : decode cX12_goes 58 = .ok (.aload_n 0, 1) := by decide +kernel
theorem dX12_goes_59 : decode cX12_goes 59 = .ok (.getfield 9, 3) := by decide +kernel
theorem dX12_goes_62 : decode cX12_goes 62 = .ok (.iload_n 2, 1) := by decide +kernel
theorem dX12_goes_63 : decode cX12_goes 63 = .ok (.iaload, 1) := by decide +kernel
theorem dX12_goes_64 : decode cX12_goes 64 = .ok (.istore_n 2, 1) := by decide +kernel
theorem dX12_goes_65 : decode cX12_goes 65 = .ok (.goto (-20), 3) := by decide +kernel
theorem dX12_goes_68 : decode cX12_goes 68 = .ok (.iload_n 2, 1) := by decide +kernel
theorem dX12_goes_69 : decode cX12_goes 69 = .ok (.aload_n 0, 1) := by decide +kernel
theorem dX12_goes_70 : decode cX12_goes 70 = .ok (.getfield 125, 3) := by decide +kernel
theorem dX12_goes_73 : decode cX12_goes 73 = .ok (.iload_n 1, 1) := by decide +kernel
theorem dX12_goes_74 : decode cX12_goes 74 = .ok (.iaload, 1) := by decide +kernel
theorem dX12_goes_75 : decode cX12_goes 75 = .ok (.if_icmp .eq 15, 3) := by decide +kernel
theorem dX12_goes_78 : decode cX12_goes 78 = .ok (.aload_n 0, 1) := by decide +kernel
theorem dX12_goes_79 : decode cX12_goes 79 = .ok (.getfield 125, 3) := by decide +kernel
theorem dX12_goes_82 : decode cX12_goes 82 = .ok (.iload_n 1, 1) := by decide +kernel
theorem dX12_goes_83 : decode cX12_goes 83 = .ok (.iload_n 2, 1) := by decide +kernel
theorem dX12_goes_84 : decode cX12_goes 84 = .ok (.iastore, 1) := by decide +kernel
theorem dX12_goes_85 : decode cX12_goes 85 = .ok (.aload_n 0, 1) := by decide +kernel
theorem dX12_goes_86 : decode cX12_goes 86 = .ok (.iload_n 1, 1) := by decide +kernel
theorem dX12_goes_87 : decode cX12_goes 87 = .ok (.invokevirtual 371, 3) := by decide +kernel
theorem dX12_goes_90 : decode cX12_goes 90 = .ok (.aload_n 0, 1) := by decide +kernel
theorem dX12_goes_91 : decode cX12_goes 91 = .ok (.iload_n 2, 1) := by decide +kernel
theorem dX12_goes_92 : decode cX12_goes 92 = .ok (.iconst 2, 1) := by decide +kernel
theorem dX12_goes_93 : decode cX12_goes 93 = .ok (.invokevirtual 374, 3) := by decide +kernel
theorem dX12_goes_96 : decode cX12_goes 96 = .ok (.istore_n 3, 1) := by decide +kernel
theorem dX12_goes_97 : decode cX12_goes 97 = .ok (.aload_n 0, 1) := by decide +kernel
theorem dX12_goes_98 : decode cX12_goes 98 = .ok (.iload_n 1, 1) := by decide +kernel
theorem dX12_goes_99 : decode cX12_goes 99 = .ok (.iload_n 3, 1) := by decide +kernel
theorem dX12_goes_100 : decode cX12_goes 100 = .ok (.invokevirtual 416, 3) := by decide +kernel
theorem dX12_goes_103 : decode cX12_goes 103 = .ok (.ifCond .ne 17, 3) := by decide +kernel
theorem dX12_goes_106 : decode cX12_goes 106 = .ok (.aload_n 0, 1) := by decide +kernel
theorem dX12_goes_107 : decode cX12_goes 107 = .ok (.iload_n 1, 1) := by decide +kernel
theorem dX12_goes_108 : decode cX12_goes 108 = .ok (.iload_n 3, 1) := by decide +kernel
theorem dX12_goes_109 : decode cX12_goes 109 = .ok (.invokevirtual 419, 3) := by decide +kernel
theorem dX12_goes_112 : decode cX12_goes 112 = .ok (.ifCond .ne 8, 3) := by decide +kernel
theorem dX12_goes_115 : decode cX12_goes 115 = .ok (.aload_n 0, 1) := by decide +kernel
theorem dX12_goes_116 : decode cX12_goes 116 = .ok (.iconst 3, 1) := by decide +kernel
theorem dX12_goes_117 : decode cX12_goes 117 = .ok (.invokevirtual 404, 3) := by decide +kernel
theorem dX12_goes_120 : decode cX12_goes 120 = .ok (.goto (-115), 3) := by decide +kernel
theorem dX12_goes_123 : decode cX12_goes 123 = .ok (.aload_n 0, 1) := by decide +kernel
theorem dX12_goes_124 : decode cX12_goes 124 = .ok (.getfield 383, 3) := by decide +kernel
theorem dX12_goes_127 : decode cX12_goes 127 = .ok (.ifCond .eq 7, 3) := by decide +kernel
theorem dX12_goes_130 : decode cX12_goes 130 = .ok (.iconst 1, 1) := by decide +kernel
theorem dX12_goes_131 : decode cX12_goes 131 = .ok (.goto 4, 3) := by decide +kernel
theorem dX12_goes_134 : decode cX12_goes 134 = .ok (.iconst 0, 1) := by decide +kernel
theorem dX12_goes_135 : decode cX12_goes 135 = .ok (.ireturn, 1) := by decide +kernel
theorem dX12_ask_0 : decode cX12_ask 0 = .ok (.aload_n 0, 1) := by decide +kernel
theorem dX12_ask_1 : decode cX12_ask 1 = .ok (.iconst 0, 1) := by decide +kernel
theorem dX12_ask_2 : decode cX12_ask 2 = .ok (.putfield 149, 3) := by decide +kernel
theorem dX12_ask_5 : decode cX12_ask 5 = .ok (.aload_n 0, 1) := by decide +kernel
theorem dX12_ask_6 : decode cX12_ask 6 = .ok (.aload_n 0, 1) := by decide +kernel
theorem dX12_ask_7 : decode cX12_ask 7 = .ok (.iload_n 1, 1) := by decide +kernel
theorem dX12_ask_8 : decode cX12_ask 8 = .ok (.invokevirtual 187, 3) := by decide +kernel
theorem dX12_ask_11 : decode cX12_ask 11 = .ok (.iconst 1, 1) := by decide +kernel
theorem dX12_ask_12 : decode cX12_ask 12 = .ok (.invokevirtual 176, 3) := by decide +kernel
theorem dX12_ask_15 : decode cX12_ask 15 = .ok (.ifCond .ne 44, 3) := by decide +kernel
theorem dX12_ask_18 : decode cX12_ask 18 = .ok (.aload_n 0, 1) := by decide +kernel
theorem dX12_ask_19 : decode cX12_ask 19 = .ok (.aload_n 0, 1) := by decide +kernel
theorem dX12_ask_20 : decode cX12_ask 20 = .ok (.getfield 137, 3) := by decide +kernel
theorem dX12_ask_23 : decode cX12_ask 23 = .ok (.iconst 4, 1) := by decide +kernel
theorem dX12_ask_24 : decode cX12_ask 24 = .ok (.if_icmp .ne 7, 3) := by decide +kernel
theorem dX12_ask_27 : decode cX12_ask 27 = .ok (.iconst 1, 1) := by decide +kernel
theorem dX12_ask_28 : decode cX12_ask 28 = .ok (.goto 4, 3) := by decide +kernel
theorem dX12_ask_31 : decode cX12_ask 31 = .ok (.iconst 0, 1) := by decide +kernel
theorem dX12_ask_32 : decode cX12_ask 32 = .ok (.iconst 2, 1) := by decide +kernel
theorem dX12_ask_33 : decode cX12_ask 33 = .ok (.invokevirtual 176, 3) := by decide +kernel
theorem dX12_ask_36 : decode cX12_ask 36 = .ok (.ifCond .ne 23, 3) := by decide +kernel
theorem dX12_ask_39 : decode cX12_ask 39 = .ok (.aload_n 0, 1) := by decide +kernel
theorem dX12_ask_40 : decode cX12_ask 40 = .ok (.iload_n 2, 1) := by decide +kernel
theorem dX12_ask_41 : decode cX12_ask 41 = .ok (.invokestatic 214, 3) := by decide +kernel
theorem dX12_ask_44 : decode cX12_ask 44 = .ok (.ifCond .ne 7, 3) := by decide +kernel
theorem dX12_ask_47 : decode cX12_ask 47 = .ok (.iconst 1, 1) := by decide +kernel
theorem dX12_ask_48 : decode cX12_ask 48 = .ok (.goto 4, 3) := by decide +kernel
theorem dX12_ask_51 : decode cX12_ask 51 = .ok (.iconst 0, 1) := by decide +kernel
theorem dX12_ask_52 : decode cX12_ask 52 = .ok (.iconst 3, 1) := by decide +kernel
theorem dX12_ask_53 : decode cX12_ask 53 = .ok (.invokevirtual 176, 3) := by decide +kernel
theorem dX12_ask_56 : decode cX12_ask 56 = .ok (.ifCond .eq 5, 3) := by decide +kernel
theorem dX12_ask_59 : decode cX12_ask 59 = .ok (.iconst 0, 1) := by decide +kernel
theorem dX12_ask_60 : decode cX12_ask 60 = .ok (.ireturn, 1) := by decide +kernel
theorem dX12_ask_61 : decode cX12_ask 61 = .ok (.aload_n 0, 1) := by decide +kernel
theorem dX12_ask_62 : decode cX12_ask 62 = .ok (.iconst 0, 1) := by decide +kernel
theorem dX12_ask_63 : decode cX12_ask 63 = .ok (.putfield 368, 3) := by decide +kernel
theorem dX12_ask_66 : decode cX12_ask 66 = .ok (.aload_n 0, 1) := by decide +kernel
theorem dX12_ask_67 : decode cX12_ask 67 = .ok (.iconst 0, 1) := by decide +kernel
theorem dX12_ask_68 : decode cX12_ask 68 = .ok (.putfield 380, 3) := by decide +kernel
theorem dX12_ask_71 : decode cX12_ask 71 = .ok (.aload_n 0, 1) := by decide +kernel
theorem dX12_ask_72 : decode cX12_ask 72 = .ok (.iconst 0, 1) := by decide +kernel
theorem dX12_ask_73 : decode cX12_ask 73 = .ok (.putfield 377, 3) := by decide +kernel
theorem dX12_ask_76 : decode cX12_ask 76 = .ok (.aload_n 0, 1) := by decide +kernel
theorem dX12_ask_77 : decode cX12_ask 77 = .ok (.iconst 4, 1) := by decide +kernel
theorem dX12_ask_78 : decode cX12_ask 78 = .ok (.putfield 137, 3) := by decide +kernel
theorem dX12_ask_81 : decode cX12_ask 81 = .ok (.aload_n 0, 1) := by decide +kernel
theorem dX12_ask_82 : decode cX12_ask 82 = .ok (.iload_n 1, 1) := by decide +kernel
theorem dX12_ask_83 : decode cX12_ask 83 = .ok (.iload_n 2, 1) := by decide +kernel
theorem dX12_ask_84 : decode cX12_ask 84 = .ok (.invokevirtual 407, 3) := by decide +kernel
theorem dX12_ask_87 : decode cX12_ask 87 = .ok (.aload_n 0, 1) := by decide +kernel
theorem dX12_ask_88 : decode cX12_ask 88 = .ok (.invokevirtual 422, 3) := by decide +kernel
theorem dX12_ask_91 : decode cX12_ask 91 = .ok (.ireturn, 1) := by decide +kernel
theorem dX12_gathers_0 : decode cX12_gathers 0 = .ok (.aload_n 0, 1) := by decide +kernel
theorem dX12_gathers_1 : decode cX12_gathers 1 = .ok (.iconst 0, 1) := by decide +kernel
theorem dX12_gathers_2 : decode cX12_gathers 2 = .ok (.putfield 355, 3) := by decide +kernel
theorem dX12_gathers_5 : decode cX12_gathers 5 = .ok (.aload_n 0, 1) := by decide +kernel
theorem dX12_gathers_6 : decode cX12_gathers 6 = .ok (.ldc2_w 425, 3) := by decide +kernel
theorem dX12_gathers_9 : decode cX12_gathers 9 = .ok (.putfield 361, 3) := by decide +kernel
theorem dX12_gathers_12 : decode cX12_gathers 12 = .ok (.iconst 0, 1) := by decide +kernel
theorem dX12_gathers_13 : decode cX12_gathers 13 = .ok (.istore 4, 2) := by decide +kernel
theorem dX12_gathers_15 : decode cX12_gathers 15 = .ok (.iload 4, 2) := by decide +kernel
theorem dX12_gathers_17 : decode cX12_gathers 17 = .ok (.aload_n 0, 1) := by decide +kernel
theorem dX12_gathers_18 : decode cX12_gathers 18 = .ok (.getfield 320, 3) := by decide +kernel
theorem dX12_gathers_21 : decode cX12_gathers 21 = .ok (.if_icmp .ge 175, 3) := by decide +kernel
theorem dX12_gathers_24 : decode cX12_gathers 24 = .ok (.aload_n 0, 1) := by decide +kernel
theorem dX12_gathers_25 : decode cX12_gathers 25 = .ok (.getfield 79, 3) := by decide +kernel
theorem dX12_gathers_28 : decode cX12_gathers 28 = .ok (.iload 4, 2) := by decide +kernel
theorem dX12_gathers_30 : decode cX12_gathers 30 = .ok (.iaload, 1) := by decide +kernel
theorem dX12_gathers_31 : decode cX12_gathers 31 = .ok (.iload_n 1, 1) := by decide +kernel
theorem dX12_gathers_32 : decode cX12_gathers 32 = .ok (.if_icmp .ne 158, 3) := by decide +kernel
theorem dX12_gathers_35 : decode cX12_gathers 35 = .ok (.aload_n 0, 1) := by decide +kernel
theorem dX12_gathers_36 : decode cX12_gathers 36 = .ok (.getfield 82, 3) := by decide +kernel
theorem dX12_gathers_39 : decode cX12_gathers 39 = .ok (.iload 4, 2) := by decide +kernel
theorem dX12_gathers_41 : decode cX12_gathers 41 = .ok (.iaload, 1) := by decide +kernel
theorem dX12_gathers_42 : decode cX12_gathers 42 = .ok (.iload_n 2, 1) := by decide +kernel
theorem dX12_gathers_43 : decode cX12_gathers 43 = .ok (.if_icmp .ne 147, 3) := by decide +kernel
theorem dX12_gathers_46 : decode cX12_gathers 46 = .ok (.aload_n 0, 1) := by decide +kernel
theorem dX12_gathers_47 : decode cX12_gathers 47 = .ok (.getfield 85, 3) := by decide +kernel
theorem dX12_gathers_50 : decode cX12_gathers 50 = .ok (.iload 4, 2) := by decide +kernel
theorem dX12_gathers_52 : decode cX12_gathers 52 = .ok (.iaload, 1) := by decide +kernel
theorem dX12_gathers_53 : decode cX12_gathers 53 = .ok (.iload_n 3, 1) := by decide +kernel
theorem dX12_gathers_54 : decode cX12_gathers 54 = .ok (.if_icmp .eq 6, 3) := by decide +kernel
theorem dX12_gathers_57 : decode cX12_gathers 57 = .ok (.goto 133, 3) := by decide +kernel
theorem dX12_gathers_60 : decode cX12_gathers 60 = .ok (.aload_n 0, 1) := by decide +kernel
theorem dX12_gathers_61 : decode cX12_gathers 61 = .ok (.getfield 91, 3) := by decide +kernel
theorem dX12_gathers_64 : decode cX12_gathers 64 = .ok (.iload 4, 2) := by decide +kernel
theorem dX12_gathers_66 : decode cX12_gathers 66 = .ok (.iaload, 1) := by decide +kernel
theorem dX12_gathers_67 : decode cX12_gathers 67 = .ok (.i2l, 1) := by decide +kernel
theorem dX12_gathers_68 : decode cX12_gathers 68 = .ok (.ldc2_w 427, 3) := by decide +kernel
theorem dX12_gathers_71 : decode cX12_gathers 71 = .ok (.land, 1) := by decide +kernel
theorem dX12_gathers_72 : decode cX12_gathers 72 = .ok (.lstore 5, 2) := by decide +kernel
theorem dX12_gathers_74 : decode cX12_gathers 74 = .ok (.aload_n 0, 1) := by decide +kernel
theorem dX12_gathers_75 : decode cX12_gathers 75 = .ok (.lload 5, 2) := by decide +kernel
theorem dX12_gathers_77 : decode cX12_gathers 77 = .ok (.aload_n 0, 1) := by decide +kernel
theorem dX12_gathers_78 : decode cX12_gathers 78 = .ok (.getfield 361, 3) := by decide +kernel
theorem dX12_gathers_81 : decode cX12_gathers 81 = .ok (.lcmp, 1) := by decide +kernel
theorem dX12_gathers_82 : decode cX12_gathers 82 = .ok (.ifCond .ge 8, 3) := by decide +kernel
theorem dX12_gathers_85 : decode cX12_gathers 85 = .ok (.lload 5, 2) := by decide +kernel
theorem dX12_gathers_87 : decode cX12_gathers 87 = .ok (.goto 7, 3) := by decide +kernel
theorem dX12_gathers_90 : decode cX12_gathers 90 = .ok (.aload_n 0, 1) := by decide +kernel
theorem dX12_gathers_91 : decode cX12_gathers 91 = .ok (.getfield 361, 3) := by decide +kernel
theorem dX12_gathers_94 : decode cX12_gathers 94 = .ok (.putfield 361, 3) := by decide +kernel
theorem dX12_gathers_97 : decode cX12_gathers 97 = .ok (.iconst 0, 1) := by decide +kernel
theorem dX12_gathers_98 : decode cX12_gathers 98 = .ok (.istore 7, 2) := by decide +kernel
theorem dX12_gathers_100 : decode cX12_gathers 100 = .ok (.iconst 0, 1) := by decide +kernel
theorem dX12_gathers_101 : decode cX12_gathers 101 = .ok (.istore 8, 2) := by decide +kernel
theorem dX12_gathers_103 : decode cX12_gathers 103 = .ok (.iload 8, 2) := by decide +kernel
theorem dX12_gathers_105 : decode cX12_gathers 105 = .ok (.aload_n 0, 1) := by decide +kernel
theorem dX12_gathers_106 : decode cX12_gathers 106 = .ok (.getfield 355, 3) := by decide +kernel
theorem dX12_gathers_109 : decode cX12_gathers 109 = .ok (.if_icmp .ge 38, 3) := by decide +kernel
theorem dX12_gathers_112 : decode cX12_gathers 112 = .ok (.iload 7, 2) := by decide +kernel
theorem dX12_gathers_114 : decode cX12_gathers 114 = .ok (.ifCond .ne 20, 3) := by decide +kernel
theorem dX12_gathers_117 : decode cX12_gathers 117 = .ok (.aload_n 0, 1) := by decide +kernel
theorem dX12_gathers_118 : decode cX12_gathers 118 = .ok (.getfield 113, 3) := by decide +kernel
theorem dX12_gathers_121 : decode cX12_gathers 121 = .ok (.iload 8, 2) := by decide +kernel
theorem dX12_gathers_123 : decode cX12_gathers 123 = .ok (.iaload, 1) := by decide +kernel
theorem dX12_gathers_124 : decode cX12_gathers 124 = .ok (.aload_n 0, 1) := by decide +kernel
theorem dX12_gathers_125 : decode cX12_gathers 125 = .ok (.getfield 88, 3) := by decide +kernel
theorem dX12_gathers_128 : decode cX12_gathers 128 = .ok (.iload 4, 2) := by decide +kernel
theorem dX12_gathers_130 : decode cX12_gathers 130 = .ok (.iaload, 1) := by decide +kernel
theorem dX12_gathers_131 : decode cX12_gathers 131 = .ok (.if_icmp .ne 7, 3) := by decide +kernel
theorem dX12_gathers_134 : decode cX12_gathers 134 = .ok (.iconst 1, 1) := by decide +kernel
theorem dX12_gathers_135 : decode cX12_gathers 135 = .ok (.goto 4, 3) := by decide +kernel
theorem dX12_gathers_138 : decode cX12_gathers 138 = .ok (.iconst 0, 1) := by decide +kernel
theorem dX12_gathers_139 : decode cX12_gathers 139 = .ok (.istore 7, 2) := by decide +kernel
theorem dX12_gathers_141 : decode cX12_gathers 141 = .ok (.iinc 8 1, 3) := by decide +kernel
theorem dX12_gathers_144 : decode cX12_gathers 144 = .ok (.goto (-41), 3) := by decide +kernel
theorem dX12_gathers_147 : decode cX12_gathers 147 = .ok (.iload 7, 2) := by decide +kernel
theorem dX12_gathers_149 : decode cX12_gathers 149 = .ok (.ifCond .ne 41, 3) := by decide +kernel
theorem dX12_gathers_152 : decode cX12_gathers 152 = .ok (.aload_n 0, 1) := by decide +kernel
theorem dX12_gathers_153 : decode cX12_gathers 153 = .ok (.getfield 355, 3) := by decide +kernel
theorem dX12_gathers_156 : decode cX12_gathers 156 = .ok (.bipush 10, 2) := by decide +kernel
theorem dX12_gathers_158 : decode cX12_gathers 158 = .ok (.if_icmp .ne 6, 3) := by decide +kernel
theorem dX12_gathers_161 : decode cX12_gathers 161 = .ok (.goto 29, 3) := by decide +kernel
theorem dX12_gathers_164 : decode cX12_gathers 164 = .ok (.aload_n 0, 1) := by decide +kernel
theorem dX12_gathers_165 : decode cX12_gathers 165 = .ok (.getfield 113, 3) := by decide +kernel
theorem dX12_gathers_168 : decode cX12_gathers 168 = .ok (.aload_n 0, 1) := by decide +kernel
theorem dX12_gathers_169 : decode cX12_gathers 169 = .ok (.getfield 355, 3) := by decide +kernel
theorem dX12_gathers_172 : decode cX12_gathers 172 = .ok (.aload_n 0, 1) := by decide +kernel
theorem dX12_gathers_173 : decode cX12_gathers 173 = .ok (.getfield 88, 3) := by decide +kernel
theorem dX12_gathers_176 : decode cX12_gathers 176 = .ok (.iload 4, 2) := by decide +kernel
theorem dX12_gathers_178 : decode cX12_gathers 178 = .ok (.iaload, 1) := by decide +kernel
theorem dX12_gathers_179 : decode cX12_gathers 179 = .ok (.iastore, 1) := by decide +kernel
theorem dX12_gathers_180 : decode cX12_gathers 180 = .ok (.aload_n 0, 1) := by decide +kernel
theorem dX12_gathers_181 : decode cX12_gathers 181 = .ok (.dup, 1) := by decide +kernel
theorem dX12_gathers_182 : decode cX12_gathers 182 = .ok (.getfield 355, 3) := by decide +kernel
theorem dX12_gathers_185 : decode cX12_gathers 185 = .ok (.iconst 1, 1) := by decide +kernel
theorem dX12_gathers_186 : decode cX12_gathers 186 = .ok (.iadd, 1) := by decide +kernel
theorem dX12_gathers_187 : decode cX12_gathers 187 = .ok (.putfield 355, 3) := by decide +kernel
theorem dX12_gathers_190 : decode cX12_gathers 190 = .ok (.iinc 4 1, 3) := by decide +kernel
theorem dX12_gathers_193 : decode cX12_gathers 193 = .ok (.goto (-178), 3) := by decide +kernel
theorem dX12_gathers_196 : decode cX12_gathers 196 = .ok (.aload_n 0, 1) := by decide +kernel
theorem dX12_gathers_197 : decode cX12_gathers 197 = .ok (.getfield 355, 3) := by decide +kernel
theorem dX12_gathers_200 : decode cX12_gathers 200 = .ok (.ireturn, 1) := by decide +kernel
theorem dX12_first_0 : decode cX12_first 0 = .ok (.iconst 0, 1) := by decide +kernel
theorem dX12_first_1 : decode cX12_first 1 = .ok (.istore 4, 2) := by decide +kernel
theorem dX12_first_3 : decode cX12_first 3 = .ok (.iload 4, 2) := by decide +kernel
theorem dX12_first_5 : decode cX12_first 5 = .ok (.aload_n 0, 1) := by decide +kernel
theorem dX12_first_6 : decode cX12_first 6 = .ok (.getfield 320, 3) := by decide +kernel
theorem dX12_first_9 : decode cX12_first 9 = .ok (.if_icmp .ge 49, 3) := by decide +kernel
theorem dX12_first_12 : decode cX12_first 12 = .ok (.aload_n 0, 1) := by decide +kernel
theorem dX12_first_13 : decode cX12_first 13 = .ok (.getfield 79, 3) := by decide +kernel
theorem dX12_first_16 : decode cX12_first 16 = .ok (.iload 4, 2) := by decide +kernel
theorem dX12_first_18 : decode cX12_first 18 = .ok (.iaload, 1) := by decide +kernel
theorem dX12_first_19 : decode cX12_first 19 = .ok (.iload_n 1, 1) := by decide +kernel
theorem dX12_first_20 : decode cX12_first 20 = .ok (.if_icmp .ne 32, 3) := by decide +kernel
theorem dX12_first_23 : decode cX12_first 23 = .ok (.aload_n 0, 1) := by decide +kernel
theorem dX12_first_24 : decode cX12_first 24 = .ok (.getfield 85, 3) := by decide +kernel
theorem dX12_first_27 : decode cX12_first 27 = .ok (.iload 4, 2) := by decide +kernel
theorem dX12_first_29 : decode cX12_first 29 = .ok (.iaload, 1) := by decide +kernel
theorem dX12_first_30 : decode cX12_first 30 = .ok (.iload_n 2, 1) := by decide +kernel
theorem dX12_first_31 : decode cX12_first 31 = .ok (.if_icmp .ne 21, 3) := by decide +kernel
theorem dX12_first_34 : decode cX12_first 34 = .ok (.iload_n 3, 1) := by decide +kernel
theorem dX12_first_35 : decode cX12_first 35 = .ok (.ifCond .lt 14, 3) := by decide +kernel
theorem dX12_first_38 : decode cX12_first 38 = .ok (.aload_n 0, 1) := by decide +kernel
theorem dX12_first_39 : decode cX12_first 39 = .ok (.getfield 82, 3) := by decide +kernel
theorem dX12_first_42 : decode cX12_first 42 = .ok (.iload 4, 2) := by decide +kernel
theorem dX12_first_44 : decode cX12_first 44 = .ok (.iaload, 1) := by decide +kernel
theorem dX12_first_45 : decode cX12_first 45 = .ok (.iload_n 3, 1) := by decide +kernel
theorem dX12_first_46 : decode cX12_first 46 = .ok (.if_icmp .ne 6, 3) := by decide +kernel
theorem dX12_first_49 : decode cX12_first 49 = .ok (.iload 4, 2) := by decide +kernel
theorem dX12_first_51 : decode cX12_first 51 = .ok (.ireturn, 1) := by decide +kernel
theorem dX12_first_52 : decode cX12_first 52 = .ok (.iinc 4 1, 3) := by decide +kernel
theorem dX12_first_55 : decode cX12_first 55 = .ok (.goto (-52), 3) := by decide +kernel
theorem dX12_first_58 : decode cX12_first 58 = .ok (.iconst (-1), 1) := by decide +kernel
theorem dX12_first_59 : decode cX12_first 59 = .ok (.ireturn, 1) := by decide +kernel
theorem dX12_isReply_0 : decode cX12_isReply 0 = .ok (.aload_n 0, 1) := by decide +kernel
theorem dX12_isReply_1 : decode cX12_isReply 1 = .ok (.getfield 368, 3) := by decide +kernel
theorem dX12_isReply_4 : decode cX12_isReply 4 = .ok (.iconst 1, 1) := by decide +kernel
theorem dX12_isReply_5 : decode cX12_isReply 5 = .ok (.isub, 1) := by decide +kernel
theorem dX12_isReply_6 : decode cX12_isReply 6 = .ok (.istore_n 1, 1) := by decide +kernel
theorem dX12_isReply_7 : decode cX12_isReply 7 = .ok (.aload_n 0, 1) := by decide +kernel
theorem dX12_isReply_8 : decode cX12_isReply 8 = .ok (.getfield 323, 3) := by decide +kernel
theorem dX12_isReply_11 : decode cX12_isReply 11 = .ok (.aload_n 0, 1) := by decide +kernel
theorem dX12_isReply_12 : decode cX12_isReply 12 = .ok (.getfield 390, 3) := by decide +kernel
theorem dX12_isReply_15 : decode cX12_isReply 15 = .ok (.if_icmp .ne 51, 3) := by decide +kernel
theorem dX12_isReply_18 : decode cX12_isReply 18 = .ok (.aload_n 0, 1) := by decide +kernel
theorem dX12_isReply_19 : decode cX12_isReply 19 = .ok (.getfield 329, 3) := by decide +kernel
theorem dX12_isReply_22 : decode cX12_isReply 22 = .ok (.aload_n 0, 1) := by decide +kernel
theorem dX12_isReply_23 : decode cX12_isReply 23 = .ok (.getfield 116, 3) := by decide +kernel
theorem dX12_isReply_26 : decode cX12_isReply 26 = .ok (.iload_n 1, 1) := by decide +kernel
theorem dX12_isReply_27 : decode cX12_isReply 27 = .ok (.iaload, 1) := by decide +kernel
theorem dX12_isReply_28 : decode cX12_isReply 28 = .ok (.if_icmp .ne 38, 3) := by decide +kernel
theorem dX12_isReply_31 : decode cX12_isReply 31 = .ok (.aload_n 0, 1) := by decide +kernel
theorem dX12_isReply_32 : decode cX12_isReply 32 = .ok (.getfield 332, 3) := by decide +kernel
theorem dX12_isReply_35 : decode cX12_isReply 35 = .ok (.aload_n 0, 1) := by decide +kernel
theorem dX12_isReply_36 : decode cX12_isReply 36 = .ok (.getfield 119, 3) := by decide +kernel
theorem dX12_isReply_39 : decode cX12_isReply 39 = .ok (.iload_n 1, 1) := by decide +kernel
theorem dX12_isReply_40 : decode cX12_isReply 40 = .ok (.iaload, 1) := by decide +kernel
theorem dX12_isReply_41 : decode cX12_isReply 41 = .ok (.if_icmp .ne 25, 3) := by decide +kernel
theorem dX12_isReply_44 : decode cX12_isReply 44 = .ok (.aload_n 0, 1) := by decide +kernel
theorem dX12_isReply_45 : decode cX12_isReply 45 = .ok (.getfield 335, 3) := by decide +kernel
theorem dX12_isReply_48 : decode cX12_isReply 48 = .ok (.iconst 1, 1) := by decide +kernel
theorem dX12_isReply_49 : decode cX12_isReply 49 = .ok (.if_icmp .ne 17, 3) := by decide +kernel
theorem dX12_isReply_52 : decode cX12_isReply 52 = .ok (.aload_n 0, 1) := by decide +kernel
theorem dX12_isReply_53 : decode cX12_isReply 53 = .ok (.getfield 326, 3) := by decide +kernel
theorem dX12_isReply_56 : decode cX12_isReply 56 = .ok (.ldc 253, 2) := by decide +kernel
theorem dX12_isReply_58 : decode cX12_isReply 58 = .ok (.iand, 1) := by decide +kernel
theorem dX12_isReply_59 : decode cX12_isReply 59 = .ok (.ifCond .eq 7, 3) := by decide +kernel
theorem dX12_isReply_62 : decode cX12_isReply 62 = .ok (.iconst 1, 1) := by decide +kernel
theorem dX12_isReply_63 : decode cX12_isReply 63 = .ok (.goto 4, 3) := by decide +kernel
theorem dX12_isReply_66 : decode cX12_isReply 66 = .ok (.iconst 0, 1) := by decide +kernel
theorem dX12_isReply_67 : decode cX12_isReply 67 = .ok (.ireturn, 1) := by decide +kernel
theorem dX12_nothing_0 : decode cX12_nothing 0 = .ok (.aload_n 0, 1) := by decide +kernel
theorem dX12_nothing_1 : decode cX12_nothing 1 = .ok (.getfield 91, 3) := by decide +kernel
theorem dX12_nothing_4 : decode cX12_nothing 4 = .ok (.iload_n 3, 1) := by decide +kernel
theorem dX12_nothing_5 : decode cX12_nothing 5 = .ok (.iaload, 1) := by decide +kernel
theorem dX12_nothing_6 : decode cX12_nothing 6 = .ok (.i2l, 1) := by decide +kernel
theorem dX12_nothing_7 : decode cX12_nothing 7 = .ok (.ldc2_w 427, 3) := by decide +kernel
theorem dX12_nothing_10 : decode cX12_nothing 10 = .ok (.land, 1) := by decide +kernel
theorem dX12_nothing_11 : decode cX12_nothing 11 = .ok (.lstore 4, 2) := by decide +kernel
theorem dX12_nothing_13 : decode cX12_nothing 13 = .ok (.aload_n 0, 1) := by decide +kernel
theorem dX12_nothing_14 : decode cX12_nothing 14 = .ok (.getfield 88, 3) := by decide +kernel
theorem dX12_nothing_17 : decode cX12_nothing 17 = .ok (.iload_n 3, 1) := by decide +kernel
theorem dX12_nothing_18 : decode cX12_nothing 18 = .ok (.iaload, 1) := by decide +kernel
theorem dX12_nothing_19 : decode cX12_nothing 19 = .ok (.i2l, 1) := by decide +kernel
theorem dX12_nothing_20 : decode cX12_nothing 20 = .ok (.ldc2_w 427, 3) := by decide +kernel
theorem dX12_nothing_23 : decode cX12_nothing 23 = .ok (.land, 1) := by decide +kernel
theorem dX12_nothing_24 : decode cX12_nothing 24 = .ok (.lstore 6, 2) := by decide +kernel
theorem dX12_nothing_26 : decode cX12_nothing 26 = .ok (.aload_n 0, 1) := by decide +kernel
theorem dX12_nothing_27 : decode cX12_nothing 27 = .ok (.iconst 0, 1) := by decide +kernel
theorem dX12_nothing_28 : decode cX12_nothing 28 = .ok (.putfield 355, 3) := by decide +kernel
theorem dX12_nothing_31 : decode cX12_nothing 31 = .ok (.aload_n 0, 1) := by decide +kernel
theorem dX12_nothing_32 : decode cX12_nothing 32 = .ok (.lload 4, 2) := by decide +kernel
theorem dX12_nothing_34 : decode cX12_nothing 34 = .ok (.lload 6, 2) := by decide +kernel
theorem dX12_nothing_36 : decode cX12_nothing 36 = .ok (.lcmp, 1) := by decide +kernel
theorem dX12_nothing_37 : decode cX12_nothing 37 = .ok (.ifCond .ge 8, 3) := by decide +kernel
theorem dX12_nothing_40 : decode cX12_nothing 40 = .ok (.lload 4, 2) := by decide +kernel
theorem dX12_nothing_42 : decode cX12_nothing 42 = .ok (.goto 5, 3) := by decide +kernel
theorem dX12_nothing_45 : decode cX12_nothing 45 = .ok (.lload 6, 2) := by decide +kernel
theorem dX12_nothing_47 : decode cX12_nothing 47 = .ok (.putfield 361, 3) := by decide +kernel
theorem dX12_nothing_50 : decode cX12_nothing 50 = .ok (.aload_n 0, 1) := by decide +kernel
theorem dX12_nothing_51 : decode cX12_nothing 51 = .ok (.iload_n 1, 1) := by decide +kernel
theorem dX12_nothing_52 : decode cX12_nothing 52 = .ok (.iload_n 2, 1) := by decide +kernel
theorem dX12_nothing_53 : decode cX12_nothing 53 = .ok (.invokevirtual 429, 3) := by decide +kernel
theorem dX12_nothing_56 : decode cX12_nothing 56 = .ok (.return_, 1) := by decide +kernel
theorem dX12_takes_0 : decode cX12_takes 0 = .ok (.aload_n 0, 1) := by decide +kernel
theorem dX12_takes_1 : decode cX12_takes 1 = .ok (.getfield 368, 3) := by decide +kernel
theorem dX12_takes_4 : decode cX12_takes 4 = .ok (.iconst 1, 1) := by decide +kernel
theorem dX12_takes_5 : decode cX12_takes 5 = .ok (.isub, 1) := by decide +kernel
theorem dX12_takes_6 : decode cX12_takes 6 = .ok (.istore_n 1, 1) := by decide +kernel
theorem dX12_takes_7 : decode cX12_takes 7 = .ok (.aload_n 0, 1) := by decide +kernel
theorem dX12_takes_8 : decode cX12_takes 8 = .ok (.getfield 116, 3) := by decide +kernel
theorem dX12_takes_11 : decode cX12_takes 11 = .ok (.iload_n 1, 1) := by decide +kernel
theorem dX12_takes_12 : decode cX12_takes 12 = .ok (.iaload, 1) := by decide +kernel
theorem dX12_takes_13 : decode cX12_takes 13 = .ok (.istore_n 2, 1) := by decide +kernel
theorem dX12_takes_14 : decode cX12_takes 14 = .ok (.aload_n 0, 1) := by decide +kernel
theorem dX12_takes_15 : decode cX12_takes 15 = .ok (.getfield 119, 3) := by decide +kernel
theorem dX12_takes_18 : decode cX12_takes 18 = .ok (.iload_n 1, 1) := by decide +kernel
theorem dX12_takes_19 : decode cX12_takes 19 = .ok (.iaload, 1) := by decide +kernel
theorem dX12_takes_20 : decode cX12_takes 20 = .ok (.istore_n 3, 1) := by decide +kernel
theorem dX12_takes_21 : decode cX12_takes 21 = .ok (.aload_n 0, 1) := by decide +kernel
theorem dX12_takes_22 : decode cX12_takes 22 = .ok (.iconst 0, 1) := by decide +kernel
theorem dX12_takes_23 : decode cX12_takes 23 = .ok (.iload_n 2, 1) := by decide +kernel
theorem dX12_takes_24 : decode cX12_takes 24 = .ok (.iload_n 3, 1) := by decide +kernel
theorem dX12_takes_25 : decode cX12_takes 25 = .ok (.invokevirtual 432, 3) := by decide +kernel
theorem dX12_takes_28 : decode cX12_takes 28 = .ok (.ifCond .le 10, 3) := by decide +kernel
theorem dX12_takes_31 : decode cX12_takes 31 = .ok (.aload_n 0, 1) := by decide +kernel
theorem dX12_takes_32 : decode cX12_takes 32 = .ok (.iload_n 2, 1) := by decide +kernel
theorem dX12_takes_33 : decode cX12_takes 33 = .ok (.iload_n 3, 1) := by decide +kernel
theorem dX12_takes_34 : decode cX12_takes 34 = .ok (.invokevirtual 429, 3) := by decide +kernel
theorem dX12_takes_37 : decode cX12_takes 37 = .ok (.return_, 1) := by decide +kernel
theorem dX12_takes_38 : decode cX12_takes 38 = .ok (.iload_n 3, 1) := by decide +kernel
theorem dX12_takes_39 : decode cX12_takes 39 = .ok (.iconst 5, 1) := by decide +kernel
theorem dX12_takes_40 : decode cX12_takes 40 = .ok (.if_icmp .ne 7, 3) := by decide +kernel
theorem dX12_takes_43 : decode cX12_takes 43 = .ok (.iconst (-1), 1) := by decide +kernel
theorem dX12_takes_44 : decode cX12_takes 44 = .ok (.goto 10, 3) := by decide +kernel
theorem dX12_takes_47 : decode cX12_takes 47 = .ok (.aload_n 0, 1) := by decide +kernel
theorem dX12_takes_48 : decode cX12_takes 48 = .ok (.iconst 0, 1) := by decide +kernel
theorem dX12_takes_49 : decode cX12_takes 49 = .ok (.iconst 5, 1) := by decide +kernel
theorem dX12_takes_50 : decode cX12_takes 50 = .ok (.iload_n 2, 1) := by decide +kernel
theorem dX12_takes_51 : decode cX12_takes 51 = .ok (.invokevirtual 436, 3) := by decide +kernel
theorem dX12_takes_54 : decode cX12_takes 54 = .ok (.istore 4, 2) := by decide +kernel
theorem dX12_takes_56 : decode cX12_takes 56 = .ok (.aload_n 0, 1) := by decide +kernel
theorem dX12_takes_57 : decode cX12_takes 57 = .ok (.iconst 1, 1) := by decide +kernel
theorem dX12_takes_58 : decode cX12_takes 58 = .ok (.bipush 6, 2) := by decide +kernel
theorem dX12_takes_60 : decode cX12_takes 60 = .ok (.iconst (-1), 1) := by decide +kernel
theorem dX12_takes_61 : decode cX12_takes 61 = .ok (.invokevirtual 436, 3) := by decide +kernel
theorem dX12_takes_64 : decode cX12_takes 64 = .ok (.istore 5, 2) := by decide +kernel
theorem dX12_takes_66 : decode cX12_takes 66 = .ok (.iload 4, 2) := by decide +kernel
theorem dX12_takes_68 : decode cX12_takes 68 = .ok (.ifCond .lt 46, 3) := by decide +kernel
theorem dX12_takes_71 : decode cX12_takes 71 = .ok (.aload_n 0, 1) := by decide +kernel
theorem dX12_takes_72 : decode cX12_takes 72 = .ok (.iconst 1, 1) := by decide +kernel
theorem dX12_takes_73 : decode cX12_takes 73 = .ok (.putfield 355, 3) := by decide +kernel
theorem dX12_takes_76 : decode cX12_takes 76 = .ok (.aload_n 0, 1) := by decide +kernel
theorem dX12_takes_77 : decode cX12_takes 77 = .ok (.getfield 113, 3) := by decide +kernel
theorem dX12_takes_80 : decode cX12_takes 80 = .ok (.iconst 0, 1) := by decide +kernel
theorem dX12_takes_81 : decode cX12_takes 81 = .ok (.aload_n 0, 1) := by decide +kernel
theorem dX12_takes_82 : decode cX12_takes 82 = .ok (.getfield 88, 3) := by decide +kernel
theorem dX12_takes_85 : decode cX12_takes 85 = .ok (.iload 4, 2) := by decide +kernel
theorem dX12_takes_87 : decode cX12_takes 87 = .ok (.iaload, 1) := by decide +kernel
theorem dX12_takes_88 : decode cX12_takes 88 = .ok (.iastore, 1) := by decide +kernel
theorem dX12_takes_89 : decode cX12_takes 89 = .ok (.aload_n 0, 1) := by decide +kernel
theorem dX12_takes_90 : decode cX12_takes 90 = .ok (.aload_n 0, 1) := by decide +kernel
theorem dX12_takes_91 : decode cX12_takes 91 = .ok (.getfield 91, 3) := by decide +kernel
theorem dX12_takes_94 : decode cX12_takes 94 = .ok (.iload 4, 2) := by decide +kernel
theorem dX12_takes_96 : decode cX12_takes 96 = .ok (.iaload, 1) := by decide +kernel
theorem dX12_takes_97 : decode cX12_takes 97 = .ok (.i2l, 1) := by decide +kernel
theorem dX12_takes_98 : decode cX12_takes 98 = .ok (.ldc2_w 427, 3) := by decide +kernel
theorem dX12_takes_101 : decode cX12_takes 101 = .ok (.land, 1) := by decide +kernel
theorem dX12_takes_102 : decode cX12_takes 102 = .ok (.putfield 361, 3) := by decide +kernel
theorem dX12_takes_105 : decode cX12_takes 105 = .ok (.aload_n 0, 1) := by decide +kernel
theorem dX12_takes_106 : decode cX12_takes 106 = .ok (.iload_n 2, 1) := by decide +kernel
theorem dX12_takes_107 : decode cX12_takes 107 = .ok (.iconst 5, 1) := by decide +kernel
theorem dX12_takes_108 : decode cX12_takes 108 = .ok (.invokevirtual 429, 3) := by decide +kernel
theorem dX12_takes_111 : decode cX12_takes 111 = .ok (.goto 73, 3) := by decide +kernel
theorem dX12_takes_114 : decode cX12_takes 114 = .ok (.aload_n 0, 1) := by decide +kernel
theorem dX12_takes_115 : decode cX12_takes 115 = .ok (.getfield 326, 3) := by decide +kernel
theorem dX12_takes_118 : decode cX12_takes 118 = .ok (.bipush 15, 2) := by decide +kernel
theorem dX12_takes_120 : decode cX12_takes 120 = .ok (.iand, 1) := by decide +kernel
theorem dX12_takes_121 : decode cX12_takes 121 = .ok (.iconst 3, 1) := by decide +kernel
theorem dX12_takes_122 : decode cX12_takes 122 = .ok (.if_icmp .ne 19, 3) := by decide +kernel
theorem dX12_takes_125 : decode cX12_takes 125 = .ok (.iload 5, 2) := by decide +kernel
theorem dX12_takes_127 : decode cX12_takes 127 = .ok (.ifCond .lt 14, 3) := by decide +kernel
theorem dX12_takes_130 : decode cX12_takes 130 = .ok (.aload_n 0, 1) := by decide +kernel
theorem dX12_takes_131 : decode cX12_takes 131 = .ok (.iload_n 2, 1) := by decide +kernel
theorem dX12_takes_132 : decode cX12_takes 132 = .ok (.iconst 0, 1) := by decide +kernel
theorem dX12_takes_133 : decode cX12_takes 133 = .ok (.iload 5, 2) := by decide +kernel
theorem dX12_takes_135 : decode cX12_takes 135 = .ok (.invokevirtual 439, 3) := by decide +kernel
theorem dX12_takes_138 : decode cX12_takes 138 = .ok (.goto 46, 3) := by decide +kernel
theorem dX12_takes_141 : decode cX12_takes 141 = .ok (.aload_n 0, 1) := by decide +kernel
theorem dX12_takes_142 : decode cX12_takes 142 = .ok (.getfield 326, 3) := by decide +kernel
theorem dX12_takes_145 : decode cX12_takes 145 = .ok (.bipush 15, 2) := by decide +kernel
theorem dX12_takes_147 : decode cX12_takes 147 = .ok (.iand, 1) := by decide +kernel
theorem dX12_takes_148 : decode cX12_takes 148 = .ok (.ifCond .ne 30, 3) := by decide +kernel
theorem dX12_takes_151 : decode cX12_takes 151 = .ok (.aload_n 0, 1) := by decide +kernel
theorem dX12_takes_152 : decode cX12_takes 152 = .ok (.getfield 326, 3) := by decide +kernel
theorem dX12_takes_155 : decode cX12_takes 155 = .ok (.sipush 1024, 3) := by decide +kernel
theorem dX12_takes_158 : decode cX12_takes 158 = .ok (.iand, 1) := by decide +kernel
theorem dX12_takes_159 : decode cX12_takes 159 = .ok (.ifCond .eq 19, 3) := by decide +kernel
theorem dX12_takes_162 : decode cX12_takes 162 = .ok (.iload 5, 2) := by decide +kernel
theorem dX12_takes_164 : decode cX12_takes 164 = .ok (.ifCond .lt 14, 3) := by decide +kernel
theorem dX12_takes_167 : decode cX12_takes 167 = .ok (.aload_n 0, 1) := by decide +kernel
theorem dX12_takes_168 : decode cX12_takes 168 = .ok (.iload_n 2, 1) := by decide +kernel
theorem dX12_takes_169 : decode cX12_takes 169 = .ok (.iload_n 3, 1) := by decide +kernel
theorem dX12_takes_170 : decode cX12_takes 170 = .ok (.iload 5, 2) := by decide +kernel
theorem dX12_takes_172 : decode cX12_takes 172 = .ok (.invokevirtual 439, 3) := by decide +kernel
theorem dX12_takes_175 : decode cX12_takes 175 = .ok (.goto 9, 3) := by decide +kernel
theorem dX12_takes_178 : decode cX12_takes 178 = .ok (.aload_n 0, 1) := by decide +kernel
theorem dX12_takes_179 : decode cX12_takes 179 = .ok (.iload_n 1, 1) := by decide +kernel
theorem dX12_takes_180 : decode cX12_takes 180 = .ok (.iload_n 2, 1) := by decide +kernel
theorem dX12_takes_181 : decode cX12_takes 181 = .ok (.invokevirtual 442, 3) := by decide +kernel
theorem dX12_takes_184 : decode cX12_takes 184 = .ok (.return_, 1) := by decide +kernel
theorem dX12_refersTo_0 : decode cX12_refersTo 0 = .ok (.aload_n 0, 1) := by decide +kernel
theorem dX12_refersTo_1 : decode cX12_refersTo 1 = .ok (.iconst 1, 1) := by decide +kernel
theorem dX12_refersTo_2 : decode cX12_refersTo 2 = .ok (.iconst 2, 1) := by decide +kernel
theorem dX12_refersTo_3 : decode cX12_refersTo 3 = .ok (.iconst (-1), 1) := by decide +kernel
theorem dX12_refersTo_4 : decode cX12_refersTo 4 = .ok (.invokevirtual 436, 3) := by decide +kernel
theorem dX12_refersTo_7 : decode cX12_refersTo 7 = .ok (.istore_n 3, 1) := by decide +kernel
theorem dX12_refersTo_8 : decode cX12_refersTo 8 = .ok (.iload_n 3, 1) := by decide +kernel
theorem dX12_refersTo_9 : decode cX12_refersTo 9 = .ok (.ifCond .lt 51, 3) := by decide +kernel
theorem dX12_refersTo_12 : decode cX12_refersTo 12 = .ok (.aload_n 0, 1) := by decide +kernel
theorem dX12_refersTo_13 : decode cX12_refersTo 13 = .ok (.getfield 82, 3) := by decide +kernel
theorem dX12_refersTo_16 : decode cX12_refersTo 16 = .ok (.iload_n 3, 1) := by decide +kernel
theorem dX12_refersTo_17 : decode cX12_refersTo 17 = .ok (.iaload, 1) := by decide +kernel
theorem dX12_refersTo_18 : decode cX12_refersTo 18 = .ok (.aload_n 0, 1) := by decide +kernel
theorem dX12_refersTo_19 : decode cX12_refersTo 19 = .ok (.getfield 125, 3) := by decide +kernel
theorem dX12_refersTo_22 : decode cX12_refersTo 22 = .ok (.iload_n 1, 1) := by decide +kernel
theorem dX12_refersTo_23 : decode cX12_refersTo 23 = .ok (.iaload, 1) := by decide +kernel
theorem dX12_refersTo_24 : decode cX12_refersTo 24 = .ok (.if_icmp .eq 36, 3) := by decide +kernel
theorem dX12_refersTo_27 : decode cX12_refersTo 27 = .ok (.aload_n 0, 1) := by decide +kernel
theorem dX12_refersTo_28 : decode cX12_refersTo 28 = .ok (.aload_n 0, 1) := by decide +kernel
theorem dX12_refersTo_29 : decode cX12_refersTo 29 = .ok (.getfield 82, 3) := by decide +kernel
theorem dX12_refersTo_32 : decode cX12_refersTo 32 = .ok (.iload_n 3, 1) := by decide +kernel
theorem dX12_refersTo_33 : decode cX12_refersTo 33 = .ok (.iaload, 1) := by decide +kernel
theorem dX12_refersTo_34 : decode cX12_refersTo 34 = .ok (.aload_n 0, 1) := by decide +kernel
theorem dX12_refersTo_35 : decode cX12_refersTo 35 = .ok (.getfield 125, 3) := by decide +kernel
theorem dX12_refersTo_38 : decode cX12_refersTo 38 = .ok (.iload_n 1, 1) := by decide +kernel
theorem dX12_refersTo_39 : decode cX12_refersTo 39 = .ok (.iaload, 1) := by decide +kernel
theorem dX12_refersTo_40 : decode cX12_refersTo 40 = .ok (.invokevirtual 210, 3) := by decide +kernel
theorem dX12_refersTo_43 : decode cX12_refersTo 43 = .ok (.ifCond .eq 17, 3) := by decide +kernel
theorem dX12_refersTo_46 : decode cX12_refersTo 46 = .ok (.aload_n 0, 1) := by decide +kernel
theorem dX12_refersTo_47 : decode cX12_refersTo 47 = .ok (.iload_n 2, 1) := by decide +kernel
theorem dX12_refersTo_48 : decode cX12_refersTo 48 = .ok (.aload_n 0, 1) := by decide +kernel
theorem dX12_refersTo_49 : decode cX12_refersTo 49 = .ok (.getfield 82, 3) := by decide +kernel
theorem dX12_refersTo_52 : decode cX12_refersTo 52 = .ok (.iload_n 3, 1) := by decide +kernel
theorem dX12_refersTo_53 : decode cX12_refersTo 53 = .ok (.iaload, 1) := by decide +kernel
theorem dX12_refersTo_54 : decode cX12_refersTo 54 = .ok (.invokevirtual 210, 3) := by decide +kernel
theorem dX12_refersTo_57 : decode cX12_refersTo 57 = .ok (.ifCond .ne 4, 3) := by decide +kernel
theorem dX12_refersTo_60 : decode cX12_refersTo 60 = .ok (.return_, 1) := by decide +kernel
theorem dX12_refersTo_61 : decode cX12_refersTo 61 = .ok (.aload_n 0, 1) := by decide +kernel
theorem dX12_refersTo_62 : decode cX12_refersTo 62 = .ok (.iconst 1, 1) := by decide +kernel
theorem dX12_refersTo_63 : decode cX12_refersTo 63 = .ok (.aload_n 0, 1) := by decide +kernel
theorem dX12_refersTo_64 : decode cX12_refersTo 64 = .ok (.getfield 82, 3) := by decide +kernel
theorem dX12_refersTo_67 : decode cX12_refersTo 67 = .ok (.iload_n 3, 1) := by decide +kernel
theorem dX12_refersTo_68 : decode cX12_refersTo 68 = .ok (.iaload, 1) := by decide +kernel
theorem dX12_refersTo_69 : decode cX12_refersTo 69 = .ok (.iconst 2, 1) := by decide +kernel
theorem dX12_refersTo_70 : decode cX12_refersTo 70 = .ok (.invokevirtual 432, 3) := by decide +kernel
theorem dX12_refersTo_73 : decode cX12_refersTo 73 = .ok (.istore 4, 2) := by decide +kernel
theorem dX12_refersTo_75 : decode cX12_refersTo 75 = .ok (.iconst 0, 1) := by decide +kernel
theorem dX12_refersTo_76 : decode cX12_refersTo 76 = .ok (.istore 5, 2) := by decide +kernel
theorem dX12_refersTo_78 : decode cX12_refersTo 78 = .ok (.iload 5, 2) := by decide +kernel
theorem dX12_refersTo_80 : decode cX12_refersTo 80 = .ok (.iload 4, 2) := by decide +kernel
theorem dX12_refersTo_82 : decode cX12_refersTo 82 = .ok (.if_icmp .ge 23, 3) := by decide +kernel
theorem dX12_refersTo_85 : decode cX12_refersTo 85 = .ok (.aload_n 0, 1) := by decide +kernel
theorem dX12_refersTo_86 : decode cX12_refersTo 86 = .ok (.getfield 146, 3) := by decide +kernel
theorem dX12_refersTo_89 : decode cX12_refersTo 89 = .ok (.iload 5, 2) := by decide +kernel
theorem dX12_refersTo_91 : decode cX12_refersTo 91 = .ok (.aload_n 0, 1) := by decide +kernel
theorem dX12_refersTo_92 : decode cX12_refersTo 92 = .ok (.getfield 113, 3) := by decide +kernel
theorem dX12_refersTo_95 : decode cX12_refersTo 95 = .ok (.iload 5, 2) := by decide +kernel
theorem dX12_refersTo_97 : decode cX12_refersTo 97 = .ok (.iaload, 1) := by decide +kernel
theorem dX12_refersTo_98 : decode cX12_refersTo 98 = .ok (.iastore, 1) := by decide +kernel
theorem dX12_refersTo_99 : decode cX12_refersTo 99 = .ok (.iinc 5 1, 3) := by decide +kernel
theorem dX12_refersTo_102 : decode cX12_refersTo 102 = .ok (.goto (-24), 3) := by decide +kernel
theorem dX12_refersTo_105 : decode cX12_refersTo 105 = .ok (.aload_n 0, 1) := by decide +kernel
theorem dX12_refersTo_106 : decode cX12_refersTo 106 = .ok (.aload_n 0, 1) := by decide +kernel
theorem dX12_refersTo_107 : decode cX12_refersTo 107 = .ok (.getfield 82, 3) := by decide +kernel
theorem dX12_refersTo_110 : decode cX12_refersTo 110 = .ok (.iload_n 3, 1) := by decide +kernel
theorem dX12_refersTo_111 : decode cX12_refersTo 111 = .ok (.iaload, 1) := by decide +kernel
theorem dX12_refersTo_112 : decode cX12_refersTo 112 = .ok (.iconst 2, 1) := by decide +kernel
theorem dX12_refersTo_113 : decode cX12_refersTo 113 = .ok (.invokevirtual 429, 3) := by decide +kernel
theorem dX12_refersTo_116 : decode cX12_refersTo 116 = .ok (.iconst 0, 1) := by decide +kernel
theorem dX12_refersTo_117 : decode cX12_refersTo 117 = .ok (.istore 5, 2) := by decide +kernel
theorem dX12_refersTo_119 : decode cX12_refersTo 119 = .ok (.iload 5, 2) := by decide +kernel
theorem dX12_refersTo_121 : decode cX12_refersTo 121 = .ok (.iload 4, 2) := by decide +kernel
theorem dX12_refersTo_123 : decode cX12_refersTo 123 = .ok (.if_icmp .ge 37, 3) := by decide +kernel
theorem dX12_refersTo_126 : decode cX12_refersTo 126 = .ok (.aload_n 0, 1) := by decide +kernel
theorem dX12_refersTo_127 : decode cX12_refersTo 127 = .ok (.iconst 2, 1) := by decide +kernel
theorem dX12_refersTo_128 : decode cX12_refersTo 128 = .ok (.aload_n 0, 1) := by decide +kernel
theorem dX12_refersTo_129 : decode cX12_refersTo 129 = .ok (.getfield 146, 3) := by decide +kernel
theorem dX12_refersTo_132 : decode cX12_refersTo 132 = .ok (.iload 5, 2) := by decide +kernel
theorem dX12_refersTo_134 : decode cX12_refersTo 134 = .ok (.iaload, 1) := by decide +kernel
theorem dX12_refersTo_135 : decode cX12_refersTo 135 = .ok (.iconst 1, 1) := by decide +kernel
theorem dX12_refersTo_136 : decode cX12_refersTo 136 = .ok (.invokevirtual 432, 3) := by decide +kernel
theorem dX12_refersTo_139 : decode cX12_refersTo 139 = .ok (.ifCond .le 15, 3) := by decide +kernel
theorem dX12_refersTo_142 : decode cX12_refersTo 142 = .ok (.aload_n 0, 1) := by decide +kernel
theorem dX12_refersTo_143 : decode cX12_refersTo 143 = .ok (.aload_n 0, 1) := by decide +kernel
theorem dX12_refersTo_144 : decode cX12_refersTo 144 = .ok (.getfield 146, 3) := by decide +kernel
theorem dX12_refersTo_147 : decode cX12_refersTo 147 = .ok (.iload 5, 2) := by decide +kernel
theorem dX12_refersTo_149 : decode cX12_refersTo 149 = .ok (.iaload, 1) := by decide +kernel
theorem dX12_refersTo_150 : decode cX12_refersTo 150 = .ok (.iconst 1, 1) := by decide +kernel
theorem dX12_refersTo_151 : decode cX12_refersTo 151 = .ok (.invokevirtual 429, 3) := by decide +kernel
theorem dX12_refersTo_154 : decode cX12_refersTo 154 = .ok (.iinc 5 1, 3) := by decide +kernel
theorem dX12_refersTo_157 : decode cX12_refersTo 157 = .ok (.goto (-38), 3) := by decide +kernel
theorem dX12_refersTo_160 : decode cX12_refersTo 160 = .ok (.return_, 1) := by decide +kernel
theorem dX12_step_0 : decode cX12_step 0 = .ok (.aload_n 0, 1) := by decide +kernel
theorem dX12_step_1 : decode cX12_step 1 = .ok (.iconst 0, 1) := by decide +kernel
theorem dX12_step_2 : decode cX12_step 2 = .ok (.putfield 149, 3) := by decide +kernel
theorem dX12_step_5 : decode cX12_step 5 = .ok (.aload_n 0, 1) := by decide +kernel
theorem dX12_step_6 : decode cX12_step 6 = .ok (.aload_n 0, 1) := by decide +kernel
theorem dX12_step_7 : decode cX12_step 7 = .ok (.getfield 383, 3) := by decide +kernel
theorem dX12_step_10 : decode cX12_step 10 = .ok (.ifCond .ne 7, 3) := by decide +kernel
theorem dX12_step_13 : decode cX12_step 13 = .ok (.iconst 1, 1) := by decide +kernel
theorem dX12_step_14 : decode cX12_step 14 = .ok (.goto 4, 3) := by decide +kernel
theorem dX12_step_17 : decode cX12_step 17 = .ok (.iconst 0, 1) := by decide +kernel
theorem dX12_step_18 : decode cX12_step 18 = .ok (.iconst 1, 1) := by decide +kernel
theorem dX12_step_19 : decode cX12_step 19 = .ok (.invokevirtual 176, 3) := by decide +kernel
theorem dX12_step_22 : decode cX12_step 22 = .ok (.ifCond .eq 5, 3) := by decide +kernel
theorem dX12_step_25 : decode cX12_step 25 = .ok (.iconst 0, 1) := by decide +kernel
theorem dX12_step_26 : decode cX12_step 26 = .ok (.ireturn, 1) := by decide +kernel
theorem dX12_step_27 : decode cX12_step 27 = .ok (.aload_n 0, 1) := by decide +kernel
theorem dX12_step_28 : decode cX12_step 28 = .ok (.aload_n 0, 1) := by decide +kernel
theorem dX12_step_29 : decode cX12_step 29 = .ok (.getfield 387, 3) := by decide +kernel
theorem dX12_step_32 : decode cX12_step 32 = .ok (.invokevirtual 220, 3) := by decide +kernel
theorem dX12_step_35 : decode cX12_step 35 = .ok (.istore_n 1, 1) := by decide +kernel
theorem dX12_step_36 : decode cX12_step 36 = .ok (.iload_n 1, 1) := by decide +kernel
theorem dX12_step_37 : decode cX12_step 37 = .ok (.ifCond .ge 7, 3) := by decide +kernel
theorem dX12_step_40 : decode cX12_step 40 = .ok (.iconst 0, 1) := by decide +kernel
theorem dX12_step_41 : decode cX12_step 41 = .ok (.goto 34, 3) := by decide +kernel
theorem dX12_step_44 : decode cX12_step 44 = .ok (.aload_n 0, 1) := by decide +kernel
theorem dX12_step_45 : decode cX12_step 45 = .ok (.iload_n 1, 1) := by decide +kernel
theorem dX12_step_46 : decode cX12_step 46 = .ok (.aload_n 0, 1) := by decide +kernel
theorem dX12_step_47 : decode cX12_step 47 = .ok (.getfield 390, 3) := by decide +kernel
theorem dX12_step_50 : decode cX12_step 50 = .ok (.aload_n 0, 1) := by decide +kernel
theorem dX12_step_51 : decode cX12_step 51 = .ok (.getfield 116, 3) := by decide +kernel
theorem dX12_step_54 : decode cX12_step 54 = .ok (.aload_n 0, 1) := by decide +kernel
theorem dX12_step_55 : decode cX12_step 55 = .ok (.getfield 368, 3) := by decide +kernel
theorem dX12_step_58 : decode cX12_step 58 = .ok (.iconst 1, 1) := by decide +kernel
theorem dX12_step_59 : decode cX12_step 59 = .ok (.isub, 1) := by decide +kernel
theorem dX12_step_60 : decode cX12_step 60 = .ok (.iaload, 1) := by decide +kernel
theorem dX12_step_61 : decode cX12_step 61 = .ok (.aload_n 0, 1) := by decide +kernel
theorem dX12_step_62 : decode cX12_step 62 = .ok (.getfield 119, 3) := by decide +kernel
theorem dX12_step_65 : decode cX12_step 65 = .ok (.aload_n 0, 1) := by decide +kernel
theorem dX12_step_66 : decode cX12_step 66 = .ok (.getfield 368, 3) := by decide +kernel
theorem dX12_step_69 : decode cX12_step 69 = .ok (.iconst 1, 1) := by decide +kernel
theorem dX12_step_70 : decode cX12_step 70 = .ok (.isub, 1) := by decide +kernel
theorem dX12_step_71 : decode cX12_step 71 = .ok (.iaload, 1) := by decide +kernel
theorem dX12_step_72 : decode cX12_step 72 = .ok (.invokevirtual 286, 3) := by decide +kernel
theorem dX12_step_75 : decode cX12_step 75 = .ok (.istore_n 2, 1) := by decide +kernel
theorem dX12_step_76 : decode cX12_step 76 = .ok (.iload_n 2, 1) := by decide +kernel
theorem dX12_step_77 : decode cX12_step 77 = .ok (.ifCond .le 26, 3) := by decide +kernel
theorem dX12_step_80 : decode cX12_step 80 = .ok (.aload_n 0, 1) := by decide +kernel
theorem dX12_step_81 : decode cX12_step 81 = .ok (.aload_n 0, 1) := by decide +kernel
theorem dX12_step_82 : decode cX12_step 82 = .ok (.getfield 70, 3) := by decide +kernel
theorem dX12_step_85 : decode cX12_step 85 = .ok (.iload_n 2, 1) := by decide +kernel
theorem dX12_step_86 : decode cX12_step 86 = .ok (.invokevirtual 342, 3) := by decide +kernel
theorem dX12_step_89 : decode cX12_step 89 = .ok (.ifCond .eq 14, 3) := by decide +kernel
theorem dX12_step_92 : decode cX12_step 92 = .ok (.aload_n 0, 1) := by decide +kernel
theorem dX12_step_93 : decode cX12_step 93 = .ok (.invokevirtual 445, 3) := by decide +kernel
theorem dX12_step_96 : decode cX12_step 96 = .ok (.ifCond .eq 7, 3) := by decide +kernel
theorem dX12_step_99 : decode cX12_step 99 = .ok (.aload_n 0, 1) := by decide +kernel
theorem dX12_step_100 : decode cX12_step 100 = .ok (.invokevirtual 449, 3) := by decide +kernel
theorem dX12_step_103 : decode cX12_step 103 = .ok (.aload_n 0, 1) := by decide +kernel
theorem dX12_step_104 : decode cX12_step 104 = .ok (.invokevirtual 422, 3) := by decide +kernel
theorem dX12_step_107 : decode cX12_step 107 = .ok (.ireturn, 1) := by decide +kernel
theorem dX12_lose_0 : decode cX12_lose 0 = .ok (.aload_n 0, 1) := by decide +kernel
theorem dX12_lose_1 : decode cX12_lose 1 = .ok (.iconst 0, 1) := by decide +kernel
theorem dX12_lose_2 : decode cX12_lose 2 = .ok (.putfield 149, 3) := by decide +kernel
theorem dX12_lose_5 : decode cX12_lose 5 = .ok (.aload_n 0, 1) := by decide +kernel
theorem dX12_lose_6 : decode cX12_lose 6 = .ok (.aload_n 0, 1) := by decide +kernel
theorem dX12_lose_7 : decode cX12_lose 7 = .ok (.getfield 383, 3) := by decide +kernel
theorem dX12_lose_10 : decode cX12_lose 10 = .ok (.ifCond .ne 7, 3) := by decide +kernel
theorem dX12_lose_13 : decode cX12_lose 13 = .ok (.iconst 1, 1) := by decide +kernel
theorem dX12_lose_14 : decode cX12_lose 14 = .ok (.goto 4, 3) := by decide +kernel
theorem dX12_lose_17 : decode cX12_lose 17 = .ok (.iconst 0, 1) := by decide +kernel
theorem dX12_lose_18 : decode cX12_lose 18 = .ok (.iconst 1, 1) := by decide +kernel
theorem dX12_lose_19 : decode cX12_lose 19 = .ok (.invokevirtual 176, 3) := by decide +kernel
theorem dX12_lose_22 : decode cX12_lose 22 = .ok (.ifCond .eq 7, 3) := by decide +kernel
theorem dX12_lose_25 : decode cX12_lose 25 = .ok (.iconst 0, 1) := by decide +kernel
theorem dX12_lose_26 : decode cX12_lose 26 = .ok (.goto 7, 3) := by decide +kernel
theorem dX12_lose_29 : decode cX12_lose 29 = .ok (.aload_n 0, 1) := by decide +kernel
theorem dX12_lose_30 : decode cX12_lose 30 = .ok (.invokevirtual 422, 3) := by decide +kernel
theorem dX12_lose_33 : decode cX12_lose 33 = .ok (.ireturn, 1) := by decide +kernel
theorem dX12_forge_0 : decode cX12_forge 0 = .ok (.aload_n 0, 1) := by decide +kernel
theorem dX12_forge_1 : decode cX12_forge 1 = .ok (.invokevirtual 169, 3) := by decide +kernel
theorem dX12_forge_4 : decode cX12_forge 4 = .ok (.istore_n 1, 1) := by decide +kernel
theorem dX12_forge_5 : decode cX12_forge 5 = .ok (.aload_n 0, 1) := by decide +kernel
theorem dX12_forge_6 : decode cX12_forge 6 = .ok (.aload_n 0, 1) := by decide +kernel
theorem dX12_forge_7 : decode cX12_forge 7 = .ok (.getfield 383, 3) := by decide +kernel
theorem dX12_forge_10 : decode cX12_forge 10 = .ok (.ifCond .ne 7, 3) := by decide +kernel
theorem dX12_forge_13 : decode cX12_forge 13 = .ok (.iconst 1, 1) := by decide +kernel
theorem dX12_forge_14 : decode cX12_forge 14 = .ok (.goto 4, 3) := by decide +kernel
theorem dX12_forge_17 : decode cX12_forge 17 = .ok (.iconst 0, 1) := by decide +kernel
theorem dX12_forge_18 : decode cX12_forge 18 = .ok (.iconst 1, 1) := by decide +kernel
theorem dX12_forge_19 : decode cX12_forge 19 = .ok (.invokevirtual 176, 3) := by decide +kernel
theorem dX12_forge_22 : decode cX12_forge 22 = .ok (.ifCond .eq 5, 3) := by decide +kernel
theorem dX12_forge_25 : decode cX12_forge 25 = .ok (.iconst 0, 1) := by decide +kernel
theorem dX12_forge_26 : decode cX12_forge 26 = .ok (.ireturn, 1) := by decide +kernel
theorem dX12_forge_27 : decode cX12_forge 27 = .ok (.aload_n 0, 1) := by decide +kernel
theorem dX12_forge_28 : decode cX12_forge 28 = .ok (.aload_n 0, 1) := by decide +kernel
theorem dX12_forge_29 : decode cX12_forge 29 = .ok (.getfield 33, 3) := by decide +kernel
theorem dX12_forge_32 : decode cX12_forge 32 = .ok (.iload_n 1, 1) := by decide +kernel
theorem dX12_forge_33 : decode cX12_forge 33 = .ok (.invokevirtual 342, 3) := by decide +kernel
theorem dX12_forge_36 : decode cX12_forge 36 = .ok (.ifCond .eq 10, 3) := by decide +kernel
theorem dX12_forge_39 : decode cX12_forge 39 = .ok (.aload_n 0, 1) := by decide +kernel
theorem dX12_forge_40 : decode cX12_forge 40 = .ok (.invokevirtual 445, 3) := by decide +kernel
theorem dX12_forge_43 : decode cX12_forge 43 = .ok (.ifCond .ne 5, 3) := by decide +kernel
theorem dX12_forge_46 : decode cX12_forge 46 = .ok (.iconst (-1), 1) := by decide +kernel
theorem dX12_forge_47 : decode cX12_forge 47 = .ok (.ireturn, 1) := by decide +kernel
theorem dX12_forge_48 : decode cX12_forge 48 = .ok (.aload_n 0, 1) := by decide +kernel
theorem dX12_forge_49 : decode cX12_forge 49 = .ok (.invokevirtual 449, 3) := by decide +kernel
theorem dX12_forge_52 : decode cX12_forge 52 = .ok (.aload_n 0, 1) := by decide +kernel
theorem dX12_forge_53 : decode cX12_forge 53 = .ok (.invokevirtual 422, 3) := by decide +kernel
theorem dX12_forge_56 : decode cX12_forge 56 = .ok (.ireturn, 1) := by decide +kernel
theorem dX12_query_0 : decode cX12_query 0 = .ok (.aload_n 0, 1) := by decide +kernel
theorem dX12_query_1 : decode cX12_query 1 = .ok (.iconst 0, 1) := by decide +kernel
theorem dX12_query_2 : decode cX12_query 2 = .ok (.putfield 149, 3) := by decide +kernel
theorem dX12_query_5 : decode cX12_query 5 = .ok (.aload_n 0, 1) := by decide +kernel
theorem dX12_query_6 : decode cX12_query 6 = .ok (.aload_n 0, 1) := by decide +kernel
theorem dX12_query_7 : decode cX12_query 7 = .ok (.getfield 383, 3) := by decide +kernel
theorem dX12_query_10 : decode cX12_query 10 = .ok (.ifCond .ne 7, 3) := by decide +kernel
theorem dX12_query_13 : decode cX12_query 13 = .ok (.iconst 1, 1) := by decide +kernel
theorem dX12_query_14 : decode cX12_query 14 = .ok (.goto 4, 3) := by decide +kernel
theorem dX12_query_17 : decode cX12_query 17 = .ok (.iconst 0, 1) := by decide +kernel
theorem dX12_query_18 : decode cX12_query 18 = .ok (.iconst 1, 1) := by decide +kernel
theorem dX12_query_19 : decode cX12_query 19 = .ok (.invokevirtual 176, 3) := by decide +kernel
theorem dX12_query_22 : decode cX12_query 22 = .ok (.ifCond .eq 5, 3) := by decide +kernel
theorem dX12_query_25 : decode cX12_query 25 = .ok (.iconst 0, 1) := by decide +kernel
theorem dX12_query_26 : decode cX12_query 26 = .ok (.ireturn, 1) := by decide +kernel
theorem dX12_query_27 : decode cX12_query 27 = .ok (.iload_n 1, 1) := by decide +kernel
theorem dX12_query_28 : decode cX12_query 28 = .ok (.tableswitch 91 0 5 #[40, 45, 50, 62, 74, 79], 40) := by decide +kernel
theorem dX12_query_68 : decode cX12_query 68 = .ok (.aload_n 0, 1) := by decide +kernel
theorem dX12_query_69 : decode cX12_query 69 = .ok (.getfield 387, 3) := by decide +kernel
theorem dX12_query_72 : decode cX12_query 72 = .ok (.ireturn, 1) := by decide +kernel
theorem dX12_query_73 : decode cX12_query 73 = .ok (.aload_n 0, 1) := by decide +kernel
theorem dX12_query_74 : decode cX12_query 74 = .ok (.getfield 390, 3) := by decide +kernel
theorem dX12_query_77 : decode cX12_query 77 = .ok (.ireturn, 1) := by decide +kernel
theorem dX12_query_78 : decode cX12_query 78 = .ok (.aload_n 0, 1) := by decide +kernel
theorem dX12_query_79 : decode cX12_query 79 = .ok (.getfield 116, 3) := by decide +kernel
theorem dX12_query_82 : decode cX12_query 82 = .ok (.aload_n 0, 1) := by decide +kernel
theorem dX12_query_83 : decode cX12_query 83 = .ok (.getfield 368, 3) := by decide +kernel
theorem dX12_query_86 : decode cX12_query 86 = .ok (.iconst 1, 1) := by decide +kernel
theorem dX12_query_87 : decode cX12_query 87 = .ok (.isub, 1) := by decide +kernel
theorem dX12_query_88 : decode cX12_query 88 = .ok (.iaload, 1) := by decide +kernel
theorem dX12_query_89 : decode cX12_query 89 = .ok (.ireturn, 1) := by decide +kernel
theorem dX12_query_90 : decode cX12_query 90 = .ok (.aload_n 0, 1) := by decide +kernel
theorem dX12_query_91 : decode cX12_query 91 = .ok (.getfield 119, 3) := by decide +kernel
theorem dX12_query_94 : decode cX12_query 94 = .ok (.aload_n 0, 1) := by decide +kernel
theorem dX12_query_95 : decode cX12_query 95 = .ok (.getfield 368, 3) := by decide +kernel
theorem dX12_query_98 : decode cX12_query 98 = .ok (.iconst 1, 1) := by decide +kernel
theorem dX12_query_99 : decode cX12_query 99 = .ok (.isub, 1) := by decide +kernel
theorem dX12_query_100 : decode cX12_query 100 = .ok (.iaload, 1) := by decide +kernel
theorem dX12_query_101 : decode cX12_query 101 = .ok (.ireturn, 1) := by decide +kernel
theorem dX12_query_102 : decode cX12_query 102 = .ok (.aload_n 0, 1) := by decide +kernel
theorem dX12_query_103 : decode cX12_query 103 = .ok (.getfield 368, 3) := by decide +kernel
theorem dX12_query_106 : decode cX12_query 106 = .ok (.ireturn, 1) := by decide +kernel
theorem dX12_query_107 : decode cX12_query 107 = .ok (.aload_n 0, 1) := by decide +kernel
theorem dX12_query_108 : decode cX12_query 108 = .ok (.getfield 125, 3) := by decide +kernel
theorem dX12_query_111 : decode cX12_query 111 = .ok (.aload_n 0, 1) := by decide +kernel
theorem dX12_query_112 : decode cX12_query 112 = .ok (.getfield 368, 3) := by decide +kernel
theorem dX12_query_115 : decode cX12_query 115 = .ok (.iconst 1, 1) := by decide +kernel
theorem dX12_query_116 : decode cX12_query 116 = .ok (.isub, 1) := by decide +kernel
theorem dX12_query_117 : decode cX12_query 117 = .ok (.iaload, 1) := by decide +kernel
theorem dX12_query_118 : decode cX12_query 118 = .ok (.ireturn, 1) := by decide +kernel
theorem dX12_query_119 : decode cX12_query 119 = .ok (.aload_n 0, 1) := by decide +kernel
theorem dX12_query_120 : decode cX12_query 120 = .ok (.iconst 2, 1) := by decide +kernel
theorem dX12_query_121 : decode cX12_query 121 = .ok (.putfield 149, 3) := by decide +kernel
theorem dX12_query_124 : decode cX12_query 124 = .ok (.iconst 0, 1) := by decide +kernel
theorem dX12_query_125 : decode cX12_query 125 = .ok (.ireturn, 1) := by decide +kernel
theorem dX12_result_0 : decode cX12_result 0 = .ok (.aload_n 0, 1) := by decide +kernel
theorem dX12_result_1 : decode cX12_result 1 = .ok (.iconst 0, 1) := by decide +kernel
theorem dX12_result_2 : decode cX12_result 2 = .ok (.putfield 149, 3) := by decide +kernel
theorem dX12_result_5 : decode cX12_result 5 = .ok (.iload_n 1, 1) := by decide +kernel
theorem dX12_result_6 : decode cX12_result 6 = .ok (.tableswitch 98 0 4 #[34, 39, 55, 74, 93], 34) := by decide +kernel
theorem dX12_result_40 : decode cX12_result 40 = .ok (.aload_n 0, 1) := by decide +kernel
theorem dX12_result_41 : decode cX12_result 41 = .ok (.getfield 137, 3) := by decide +kernel
theorem dX12_result_44 : decode cX12_result 44 = .ok (.ireturn, 1) := by decide +kernel
theorem dX12_result_45 : decode cX12_result 45 = .ok (.aload_n 0, 1) := by decide +kernel
theorem dX12_result_46 : decode cX12_result 46 = .ok (.getfield 137, 3) := by decide +kernel
theorem dX12_result_49 : decode cX12_result 49 = .ok (.ifCond .ne 10, 3) := by decide +kernel
theorem dX12_result_52 : decode cX12_result 52 = .ok (.aload_n 0, 1) := by decide +kernel
theorem dX12_result_53 : decode cX12_result 53 = .ok (.getfield 377, 3) := by decide +kernel
theorem dX12_result_56 : decode cX12_result 56 = .ok (.goto 4, 3) := by decide +kernel
theorem dX12_result_59 : decode cX12_result 59 = .ok (.iconst 0, 1) := by decide +kernel
theorem dX12_result_60 : decode cX12_result 60 = .ok (.ireturn, 1) := by decide +kernel
theorem dX12_result_61 : decode cX12_result 61 = .ok (.aload_n 0, 1) := by decide +kernel
theorem dX12_result_62 : decode cX12_result 62 = .ok (.getfield 137, 3) := by decide +kernel
theorem dX12_result_65 : decode cX12_result 65 = .ok (.iconst 5, 1) := by decide +kernel
theorem dX12_result_66 : decode cX12_result 66 = .ok (.if_icmp .ne 7, 3) := by decide +kernel
theorem dX12_result_69 : decode cX12_result 69 = .ok (.iconst 0, 1) := by decide +kernel
theorem dX12_result_70 : decode cX12_result 70 = .ok (.goto 9, 3) := by decide +kernel
theorem dX12_result_73 : decode cX12_result 73 = .ok (.aload_n 0, 1) := by decide +kernel
theorem dX12_result_74 : decode cX12_result 74 = .ok (.getfield 122, 3) := by decide +kernel
theorem dX12_result_77 : decode cX12_result 77 = .ok (.iconst 0, 1) := by decide +kernel
theorem dX12_result_78 : decode cX12_result 78 = .ok (.iaload, 1) := by decide +kernel
theorem dX12_result_79 : decode cX12_result 79 = .ok (.ireturn, 1) := by decide +kernel
theorem dX12_result_80 : decode cX12_result 80 = .ok (.aload_n 0, 1) := by decide +kernel
theorem dX12_result_81 : decode cX12_result 81 = .ok (.getfield 137, 3) := by decide +kernel
theorem dX12_result_84 : decode cX12_result 84 = .ok (.iconst 5, 1) := by decide +kernel
theorem dX12_result_85 : decode cX12_result 85 = .ok (.if_icmp .ne 7, 3) := by decide +kernel
theorem dX12_result_88 : decode cX12_result 88 = .ok (.iconst 0, 1) := by decide +kernel
theorem dX12_result_89 : decode cX12_result 89 = .ok (.goto 9, 3) := by decide +kernel
theorem dX12_result_92 : decode cX12_result 92 = .ok (.aload_n 0, 1) := by decide +kernel
theorem dX12_result_93 : decode cX12_result 93 = .ok (.getfield 116, 3) := by decide +kernel
theorem dX12_result_96 : decode cX12_result 96 = .ok (.iconst 0, 1) := by decide +kernel
theorem dX12_result_97 : decode cX12_result 97 = .ok (.iaload, 1) := by decide +kernel
theorem dX12_result_98 : decode cX12_result 98 = .ok (.ireturn, 1) := by decide +kernel
theorem dX12_result_99 : decode cX12_result 99 = .ok (.aload_n 0, 1) := by decide +kernel
theorem dX12_result_100 : decode cX12_result 100 = .ok (.getfield 380, 3) := by decide +kernel
theorem dX12_result_103 : decode cX12_result 103 = .ok (.ireturn, 1) := by decide +kernel
theorem dX12_result_104 : decode cX12_result 104 = .ok (.aload_n 0, 1) := by decide +kernel
theorem dX12_result_105 : decode cX12_result 105 = .ok (.iconst 1, 1) := by decide +kernel
theorem dX12_result_106 : decode cX12_result 106 = .ok (.putfield 149, 3) := by decide +kernel
theorem dX12_result_109 : decode cX12_result 109 = .ok (.iconst 0, 1) := by decide +kernel
theorem dX12_result_110 : decode cX12_result 110 = .ok (.ireturn, 1) := by decide +kernel
theorem dX12_data_0 : decode cX12_data 0 = .ok (.aload_n 0, 1) := by decide +kernel
theorem dX12_data_1 : decode cX12_data 1 = .ok (.iconst 0, 1) := by decide +kernel
theorem dX12_data_2 : decode cX12_data 2 = .ok (.putfield 149, 3) := by decide +kernel
theorem dX12_data_5 : decode cX12_data 5 = .ok (.aload_n 0, 1) := by decide +kernel
theorem dX12_data_6 : decode cX12_data 6 = .ok (.getfield 137, 3) := by decide +kernel
theorem dX12_data_9 : decode cX12_data 9 = .ok (.ifCond .ne 15, 3) := by decide +kernel
theorem dX12_data_12 : decode cX12_data 12 = .ok (.iload_n 1, 1) := by decide +kernel
theorem dX12_data_13 : decode cX12_data 13 = .ok (.ifCond .lt 11, 3) := by decide +kernel
theorem dX12_data_16 : decode cX12_data 16 = .ok (.iload_n 1, 1) := by decide +kernel
theorem dX12_data_17 : decode cX12_data 17 = .ok (.aload_n 0, 1) := by decide +kernel
theorem dX12_data_18 : decode cX12_data 18 = .ok (.getfield 377, 3) := by decide +kernel
theorem dX12_data_21 : decode cX12_data 21 = .ok (.if_icmp .lt 7, 3) := by decide +kernel
theorem dX12_data_24 : decode cX12_data 24 = .ok (.iconst 0, 1) := by decide +kernel
theorem dX12_data_25 : decode cX12_data 25 = .ok (.goto 9, 3) := by decide +kernel
theorem dX12_data_28 : decode cX12_data 28 = .ok (.aload_n 0, 1) := by decide +kernel
theorem dX12_data_29 : decode cX12_data 29 = .ok (.getfield 143, 3) := by decide +kernel
theorem dX12_data_32 : decode cX12_data 32 = .ok (.iload_n 1, 1) := by decide +kernel
theorem dX12_data_33 : decode cX12_data 33 = .ok (.iaload, 1) := by decide +kernel
theorem dX12_data_34 : decode cX12_data 34 = .ok (.ireturn, 1) := by decide +kernel
theorem dX12_count_0 : decode cX12_count 0 = .ok (.aload_n 0, 1) := by decide +kernel
theorem dX12_count_1 : decode cX12_count 1 = .ok (.iconst 0, 1) := by decide +kernel
theorem dX12_count_2 : decode cX12_count 2 = .ok (.putfield 149, 3) := by decide +kernel
theorem dX12_count_5 : decode cX12_count 5 = .ok (.iload_n 1, 1) := by decide +kernel
theorem dX12_count_6 : decode cX12_count 6 = .ok (.tableswitch 95 0 8 #[50, 55, 60, 65, 70, 75, 80, 85, 90], 50) := by decide +kernel
theorem dX12_count_56 : decode cX12_count 56 = .ok (.aload_n 0, 1) := by decide +kernel
theorem dX12_count_57 : decode cX12_count 57 = .ok (.getfield 23, 3) := by decide +kernel
theorem dX12_count_60 : decode cX12_count 60 = .ok (.ireturn, 1) := by decide +kernel
theorem dX12_count_61 : decode cX12_count 61 = .ok (.aload_n 0, 1) := by decide +kernel
theorem dX12_count_62 : decode cX12_count 62 = .ok (.getfield 194, 3) := by decide +kernel
theorem dX12_count_65 : decode cX12_count 65 = .ok (.ireturn, 1) := by decide +kernel
theorem dX12_count_66 : decode cX12_count 66 = .ok (.aload_n 0, 1) := by decide +kernel
theorem dX12_count_67 : decode cX12_count 67 = .ok (.getfield 204, 3) := by decide +kernel
theorem dX12_count_70 : decode cX12_count 70 = .ok (.ireturn, 1) := by decide +kernel
theorem dX12_count_71 : decode cX12_count 71 = .ok (.aload_n 0, 1) := by decide +kernel
theorem dX12_count_72 : decode cX12_count 72 = .ok (.getfield 197, 3) := by decide +kernel
theorem dX12_count_75 : decode cX12_count 75 = .ok (.ireturn, 1) := by decide +kernel
theorem dX12_count_76 : decode cX12_count 76 = .ok (.aload_n 0, 1) := by decide +kernel
theorem dX12_count_77 : decode cX12_count 77 = .ok (.getfield 226, 3) := by decide +kernel
theorem dX12_count_80 : decode cX12_count 80 = .ok (.ireturn, 1) := by decide +kernel
theorem dX12_count_81 : decode cX12_count 81 = .ok (.aload_n 0, 1) := by decide +kernel
theorem dX12_count_82 : decode cX12_count 82 = .ok (.getfield 358, 3) := by decide +kernel
theorem dX12_count_85 : decode cX12_count 85 = .ok (.ireturn, 1) := by decide +kernel
theorem dX12_count_86 : decode cX12_count 86 = .ok (.aload_n 0, 1) := by decide +kernel
theorem dX12_count_87 : decode cX12_count 87 = .ok (.getfield 349, 3) := by decide +kernel
theorem dX12_count_90 : decode cX12_count 90 = .ok (.ireturn, 1) := by decide +kernel
theorem dX12_count_91 : decode cX12_count 91 = .ok (.aload_n 0, 1) := by decide +kernel
theorem dX12_count_92 : decode cX12_count 92 = .ok (.getfield 394, 3) := by decide +kernel
theorem dX12_count_95 : decode cX12_count 95 = .ok (.ireturn, 1) := by decide +kernel
theorem dX12_count_96 : decode cX12_count 96 = .ok (.aload_n 0, 1) := by decide +kernel
theorem dX12_count_97 : decode cX12_count 97 = .ok (.getfield 162, 3) := by decide +kernel
theorem dX12_count_100 : decode cX12_count 100 = .ok (.ireturn, 1) := by decide +kernel
theorem dX12_count_101 : decode cX12_count 101 = .ok (.iconst (-1), 1) := by decide +kernel
theorem dX12_count_102 : decode cX12_count 102 = .ok (.ireturn, 1) := by decide +kernel
