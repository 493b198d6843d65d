theorem q4085 : Cond.methodLink "ClassWorksModel" 1223 y_Mo_putMethod ∈ lw_ok := lw_okmem (List.mem_of_getElem? (i := 4085) (by decide +kernel)) rfl
set_option maxRecDepth 100000 in
theorem q4088 : Cond.code y_Mo_putMethod b_Mo_putMethod 8 (none) ∈ lw_ok := lw_okmem (List.mem_of_getElem? (i := 4088) (by rfl)) rfl
theorem q4087 : Cond.instanceMethod y_Mo_putMethod ∈ lw_ok := lw_okmem (List.mem_of_getElem? (i := 4087) (by decide +kernel)) rfl
theorem q301 : Cond.selects y_Mo_putMethod.cls y_Mo_putMethod y_Mo_putMethod ∈ lw_ok := lw_okmem (List.mem_of_getElem? (i := 301) (by decide +kernel)) rfl
theorem w9_Mo_putMethod : CWv y_Mo_putMethod b_Mo_putMethod 8 (none) 1 ∧ Cond.instanceMethod y_Mo_putMethod ∈ lw_ok ∧ Cond.selects y_Mo_putMethod.cls y_Mo_putMethod y_Mo_putMethod ∈ lw_ok := ⟨⟨q4088, q348, by decide +kernel, by decide +kernel, by decide +kernel⟩, q4087, q301⟩
def y_Mo_print : MethodName := ⟨"ClassWorksModel", "print", "(II)I"⟩
abbrev b_Mo_print : ByteArray := prog_14_method_162_code
theorem d_Mo_print_0 : decode b_Mo_print 0 = .ok (.aload_n 0, 1) := by decide +kernel
theorem d_Mo_print_1 : decode b_Mo_print 1 = .ok (.iload_n 1, 1) := by decide +kernel
theorem d_Mo_print_2 : decode b_Mo_print 2 = .ok (.iload_n 2, 1) := by decide +kernel
theorem d_Mo_print_3 : decode b_Mo_print 3 = .ok (.invokevirtual 1129, 3) := by decide +kernel
theorem d_Mo_print_6 : decode b_Mo_print 6 = .ok (.ifCond .eq 9, 3) := by decide +kernel
theorem d_Mo_print_9 : decode b_Mo_print 9 = .ok (.iload_n 2, 1) := by decide +kernel
theorem d_Mo_print_10 : decode b_Mo_print 10 = .ok (.bipush 21, 2) := by decide +kernel
theorem d_Mo_print_12 : decode b_Mo_print 12 = .ok (.if_icmp .ge 5, 3) := by decide +kernel
theorem d_Mo_print_15 : decode b_Mo_print 15 = .ok (.iconst (-1), 1) := by decide +kernel
theorem d_Mo_print_16 : decode b_Mo_print 16 = .ok (.ireturn, 1) := by decide +kernel
theorem d_Mo_print_17 : decode b_Mo_print 17 = .ok (.aload_n 0, 1) := by decide +kernel
theorem d_Mo_print_18 : decode b_Mo_print 18 = .ok (.aload_n 0, 1) := by decide +kernel
theorem d_Mo_print_19 : decode b_Mo_print 19 = .ok (.getfield 263, 3) := by decide +kernel
theorem d_Mo_print_22 : decode b_Mo_print 22 = .ok (.iload_n 1, 1) := by decide +kernel
theorem d_Mo_print_23 : decode b_Mo_print 23 = .ok (.aaload, 1) := by decide +kernel
theorem d_Mo_print_24 : decode b_Mo_print 24 = .ok (.putfield 522, 3) := by decide +kernel
theorem d_Mo_print_27 : decode b_Mo_print 27 = .ok (.aload_n 0, 1) := by decide +kernel
theorem d_Mo_print_28 : decode b_Mo_print 28 = .ok (.iconst 0, 1) := by decide +kernel
theorem d_Mo_print_29 : decode b_Mo_print 29 = .ok (.putfield 1176, 3) := by decide +kernel
theorem d_Mo_print_32 : decode b_Mo_print 32 = .ok (.aload_n 0, 1) := by decide +kernel
theorem d_Mo_print_33 : decode b_Mo_print 33 = .ok (.aload_n 0, 1) := by decide +kernel
theorem d_Mo_print_34 : decode b_Mo_print 34 = .ok (.getfield 522, 3) := by decide +kernel
theorem d_Mo_print_37 : decode b_Mo_print 37 = .ok (.getfield 429, 3) := by decide +kernel
theorem d_Mo_print_40 : decode b_Mo_print 40 = .ok (.iload_n 2, 1) := by decide +kernel
theorem d_Mo_print_41 : decode b_Mo_print 41 = .ok (.iaload, 1) := by decide +kernel
theorem d_Mo_print_42 : decode b_Mo_print 42 = .ok (.iconst 1, 1) := by decide +kernel
theorem d_Mo_print_43 : decode b_Mo_print 43 = .ok (.iand, 1) := by decide +kernel
theorem d_Mo_print_44 : decode b_Mo_print 44 = .ok (.ifCond .eq 7, 3) := by decide +kernel
theorem d_Mo_print_47 : decode b_Mo_print 47 = .ok (.iconst 1, 1) := by decide +kernel
theorem d_Mo_print_48 : decode b_Mo_print 48 = .ok (.goto 4, 3) := by decide +kernel
theorem d_Mo_print_51 : decode b_Mo_print 51 = .ok (.iconst 0, 1) := by decide +kernel
theorem d_Mo_print_52 : decode b_Mo_print 52 = .ok (.ldc_w 1199, 3) := by decide +kernel
theorem d_Mo_print_55 : decode b_Mo_print 55 = .ok (.invokevirtual 1201, 3) := by decide +kernel
theorem d_Mo_print_58 : decode b_Mo_print 58 = .ok (.aload_n 0, 1) := by decide +kernel
theorem d_Mo_print_59 : decode b_Mo_print 59 = .ok (.aload_n 0, 1) := by decide +kernel
theorem d_Mo_print_60 : decode b_Mo_print 60 = .ok (.getfield 522, 3) := by decide +kernel
theorem d_Mo_print_63 : decode b_Mo_print 63 = .ok (.getfield 429, 3) := by decide +kernel
theorem d_Mo_print_66 : decode b_Mo_print 66 = .ok (.iload_n 2, 1) := by decide +kernel
theorem d_Mo_print_67 : decode b_Mo_print 67 = .ok (.iaload, 1) := by decide +kernel
theorem d_Mo_print_68 : decode b_Mo_print 68 = .ok (.iconst 2, 1) := by decide +kernel
theorem d_Mo_print_69 : decode b_Mo_print 69 = .ok (.iand, 1) := by decide +kernel
theorem d_Mo_print_70 : decode b_Mo_print 70 = .ok (.ifCond .eq 7, 3) := by decide +kernel
theorem d_Mo_print_73 : decode b_Mo_print 73 = .ok (.iconst 1, 1) := by decide +kernel
theorem d_Mo_print_74 : decode b_Mo_print 74 = .ok (.goto 4, 3) := by decide +kernel
theorem d_Mo_print_77 : decode b_Mo_print 77 = .ok (.iconst 0, 1) := by decide +kernel
theorem d_Mo_print_78 : decode b_Mo_print 78 = .ok (.ldc_w 1205, 3) := by decide +kernel
theorem d_Mo_print_81 : decode b_Mo_print 81 = .ok (.invokevirtual 1201, 3) := by decide +kernel
theorem d_Mo_print_84 : decode b_Mo_print 84 = .ok (.aload_n 0, 1) := by decide +kernel
theorem d_Mo_print_85 : decode b_Mo_print 85 = .ok (.aload_n 0, 1) := by decide +kernel
theorem d_Mo_print_86 : decode b_Mo_print 86 = .ok (.getfield 522, 3) := by decide +kernel
theorem d_Mo_print_89 : decode b_Mo_print 89 = .ok (.getfield 429, 3) := by decide +kernel
theorem d_Mo_print_92 : decode b_Mo_print 92 = .ok (.iload_n 2, 1) := by decide +kernel
theorem d_Mo_print_93 : decode b_Mo_print 93 = .ok (.iaload, 1) := by decide +kernel
theorem d_Mo_print_94 : decode b_Mo_print 94 = .ok (.iconst 4, 1) := by decide +kernel
theorem d_Mo_print_95 : decode b_Mo_print 95 = .ok (.iand, 1) := by decide +kernel
theorem d_Mo_print_96 : decode b_Mo_print 96 = .ok (.ifCond .eq 7, 3) := by decide +kernel
theorem d_Mo_print_99 : decode b_Mo_print 99 = .ok (.iconst 1, 1) := by decide +kernel
theorem d_Mo_print_100 : decode b_Mo_print 100 = .ok (.goto 4, 3) := by decide +kernel
theorem d_Mo_print_103 : decode b_Mo_print 103 = .ok (.iconst 0, 1) := by decide +kernel
theorem d_Mo_print_104 : decode b_Mo_print 104 = .ok (.ldc_w 1207, 3) := by decide +kernel
theorem d_Mo_print_107 : decode b_Mo_print 107 = .ok (.invokevirtual 1201, 3) := by decide +kernel
theorem d_Mo_print_110 : decode b_Mo_print 110 = .ok (.aload_n 0, 1) := by decide +kernel
theorem d_Mo_print_111 : decode b_Mo_print 111 = .ok (.ldc_w 1209, 3) := by decide +kernel
theorem d_Mo_print_114 : decode b_Mo_print 114 = .ok (.invokevirtual 1187, 3) := by decide +kernel
theorem d_Mo_print_117 : decode b_Mo_print 117 = .ok (.aload_n 0, 1) := by decide +kernel
theorem d_Mo_print_118 : decode b_Mo_print 118 = .ok (.aload_n 0, 1) := by decide +kernel
theorem d_Mo_print_119 : decode b_Mo_print 119 = .ok (.getfield 522, 3) := by decide +kernel
theorem d_Mo_print_122 : decode b_Mo_print 122 = .ok (.getfield 423, 3) := by decide +kernel
theorem d_Mo_print_125 : decode b_Mo_print 125 = .ok (.iload_n 2, 1) := by decide +kernel
theorem d_Mo_print_126 : decode b_Mo_print 126 = .ok (.iaload, 1) := by decide +kernel
theorem d_Mo_print_127 : decode b_Mo_print 127 = .ok (.invokevirtual 1182, 3) := by decide +kernel
theorem d_Mo_print_130 : decode b_Mo_print 130 = .ok (.aload_n 0, 1) := by decide +kernel
theorem d_Mo_print_131 : decode b_Mo_print 131 = .ok (.ldc_w 1211, 3) := by decide +kernel
theorem d_Mo_print_134 : decode b_Mo_print 134 = .ok (.invokevirtual 1187, 3) := by decide +kernel
theorem d_Mo_print_137 : decode b_Mo_print 137 = .ok (.aload_n 0, 1) := by decide +kernel
theorem d_Mo_print_138 : decode b_Mo_print 138 = .ok (.aload_n 0, 1) := by decide +kernel
theorem d_Mo_print_139 : decode b_Mo_print 139 = .ok (.getfield 522, 3) := by decide +kernel
theorem d_Mo_print_142 : decode b_Mo_print 142 = .ok (.getfield 426, 3) := by decide +kernel
theorem d_Mo_print_145 : decode b_Mo_print 145 = .ok (.iload_n 2, 1) := by decide +kernel
theorem d_Mo_print_146 : decode b_Mo_print 146 = .ok (.iaload, 1) := by decide +kernel
theorem d_Mo_print_147 : decode b_Mo_print 147 = .ok (.invokevirtual 1182, 3) := by decide +kernel
theorem d_Mo_print_150 : decode b_Mo_print 150 = .ok (.iconst 0, 1) := by decide +kernel
theorem d_Mo_print_151 : decode b_Mo_print 151 = .ok (.istore_n 3, 1) := by decide +kernel
theorem d_Mo_print_152 : decode b_Mo_print 152 = .ok (.iload_n 3, 1) := by decide +kernel
theorem d_Mo_print_153 : decode b_Mo_print 153 = .ok (.aload_n 0, 1) := by decide +kernel
theorem d_Mo_print_154 : decode b_Mo_print 154 = .ok (.getfield 522, 3) := by decide +kernel
theorem d_Mo_print_157 : decode b_Mo_print 157 = .ok (.getfield 432, 3) := by decide +kernel
theorem d_Mo_print_160 : decode b_Mo_print 160 = .ok (.iload_n 2, 1) := by decide +kernel
theorem d_Mo_print_161 : decode b_Mo_print 161 = .ok (.iaload, 1) := by decide +kernel
theorem d_Mo_print_162 : decode b_Mo_print 162 = .ok (.if_icmp .ge 33, 3) := by decide +kernel
theorem d_Mo_print_165 : decode b_Mo_print 165 = .ok (.aload_n 0, 1) := by decide +kernel
theorem d_Mo_print_166 : decode b_Mo_print 166 = .ok (.ldc_w 1190, 3) := by decide +kernel
theorem d_Mo_print_169 : decode b_Mo_print 169 = .ok (.invokevirtual 1187, 3) := by decide +kernel
theorem d_Mo_print_172 : decode b_Mo_print 172 = .ok (.aload_n 0, 1) := by decide +kernel
theorem d_Mo_print_173 : decode b_Mo_print 173 = .ok (.aload_n 0, 1) := by decide +kernel
theorem d_Mo_print_174 : decode b_Mo_print 174 = .ok (.getfield 522, 3) := by decide +kernel
theorem d_Mo_print_177 : decode b_Mo_print 177 = .ok (.getfield 612, 3) := by decide +kernel
theorem d_Mo_print_180 : decode b_Mo_print 180 = .ok (.iconst 4, 1) := by decide +kernel
theorem d_Mo_print_181 : decode b_Mo_print 181 = .ok (.iload_n 2, 1) := by decide +kernel
theorem d_Mo_print_182 : decode b_Mo_print 182 = .ok (.imul, 1) := by decide +kernel
theorem d_Mo_print_183 : decode b_Mo_print 183 = .ok (.iload_n 3, 1) := by decide +kernel
theorem d_Mo_print_184 : decode b_Mo_print 184 = .ok (.iadd, 1) := by decide +kernel
theorem d_Mo_print_185 : decode b_Mo_print 185 = .ok (.iaload, 1) := by decide +kernel
theorem d_Mo_print_186 : decode b_Mo_print 186 = .ok (.invokevirtual 1182, 3) := by decide +kernel
theorem d_Mo_print_189 : decode b_Mo_print 189 = .ok (.iinc 3 1, 3) := by decide +kernel
theorem d_Mo_print_192 : decode b_Mo_print 192 = .ok (.goto (-40), 3) := by decide +kernel
theorem d_Mo_print_195 : decode b_Mo_print 195 = .ok (.aload_n 0, 1) := by decide +kernel
theorem d_Mo_print_196 : decode b_Mo_print 196 = .ok (.bipush 10, 2) := by decide +kernel
theorem d_Mo_print_198 : decode b_Mo_print 198 = .ok (.invokevirtual 1179, 3) := by decide +kernel
theorem d_Mo_print_201 : decode b_Mo_print 201 = .ok (.bipush 8, 2) := by decide +kernel
theorem d_Mo_print_203 : decode b_Mo_print 203 = .ok (.iload_n 2, 1) := by decide +kernel
theorem d_Mo_print_204 : decode b_Mo_print 204 = .ok (.imul, 1) := by decide +kernel
theorem d_Mo_print_205 : decode b_Mo_print 205 = .ok (.istore_n 3, 1) := by decide +kernel
theorem d_Mo_print_206 : decode b_Mo_print 206 = .ok (.iload_n 3, 1) := by decide +kernel
theorem d_Mo_print_207 : decode b_Mo_print 207 = .ok (.bipush 8, 2) := by decide +kernel
theorem d_Mo_print_209 : decode b_Mo_print 209 = .ok (.iload_n 2, 1) := by decide +kernel
theorem d_Mo_print_210 : decode b_Mo_print 210 = .ok (.imul, 1) := by decide +kernel
theorem d_Mo_print_211 : decode b_Mo_print 211 = .ok (.aload_n 0, 1) := by decide +kernel
theorem d_Mo_print_212 : decode b_Mo_print 212 = .ok (.getfield 522, 3) := by decide +kernel
theorem d_Mo_print_215 : decode b_Mo_print 215 = .ok (.getfield 435, 3) := by decide +kernel
theorem d_Mo_print_218 : decode b_Mo_print 218 = .ok (.iload_n 2, 1) := by decide +kernel
theorem d_Mo_print_219 : decode b_Mo_print 219 = .ok (.iaload, 1) := by decide +kernel
theorem d_Mo_print_220 : decode b_Mo_print 220 = .ok (.iadd, 1) := by decide +kernel
theorem d_Mo_print_221 : decode b_Mo_print 221 = .ok (.if_icmp .ge 99, 3) := by decide +kernel
theorem d_Mo_print_224 : decode b_Mo_print 224 = .ok (.aload_n 0, 1) := by decide +kernel
theorem d_Mo_print_225 : decode b_Mo_print 225 = .ok (.ldc_w 1213, 3) := by decide +kernel
theorem d_Mo_print_228 : decode b_Mo_print 228 = .ok (.invokevirtual 1187, 3) := by decide +kernel
theorem d_Mo_print_231 : decode b_Mo_print 231 = .ok (.aload_n 0, 1) := by decide +kernel
theorem d_Mo_print_232 : decode b_Mo_print 232 = .ok (.aload_n 0, 1) := by decide +kernel
theorem d_Mo_print_233 : decode b_Mo_print 233 = .ok (.getfield 522, 3) := by decide +kernel
theorem d_Mo_print_236 : decode b_Mo_print 236 = .ok (.getfield 627, 3) := by decide +kernel
theorem d_Mo_print_239 : decode b_Mo_print 239 = .ok (.iload_n 3, 1) := by decide +kernel
theorem d_Mo_print_240 : decode b_Mo_print 240 = .ok (.iaload, 1) := by decide +kernel
theorem d_Mo_print_241 : decode b_Mo_print 241 = .ok (.invokevirtual 1215, 3) := by decide +kernel
theorem d_Mo_print_244 : decode b_Mo_print 244 = .ok (.aload_n 0, 1) := by decide +kernel
theorem d_Mo_print_245 : decode b_Mo_print 245 = .ok (.aload_n 0, 1) := by decide +kernel
theorem d_Mo_print_246 : decode b_Mo_print 246 = .ok (.getfield 522, 3) := by decide +kernel
theorem d_Mo_print_249 : decode b_Mo_print 249 = .ok (.getfield 621, 3) := by decide +kernel
theorem d_Mo_print_252 : decode b_Mo_print 252 = .ok (.iload_n 3, 1) := by decide +kernel
theorem d_Mo_print_253 : decode b_Mo_print 253 = .ok (.iaload, 1) := by decide +kernel
theorem d_Mo_print_254 : decode b_Mo_print 254 = .ok (.invokevirtual 1182, 3) := by decide +kernel
theorem d_Mo_print_257 : decode b_Mo_print 257 = .ok (.aload_n 0, 1) := by decide +kernel
theorem d_Mo_print_258 : decode b_Mo_print 258 = .ok (.bipush 32, 2) := by decide +kernel
theorem d_Mo_print_260 : decode b_Mo_print 260 = .ok (.invokevirtual 1179, 3) := by decide +kernel
theorem d_Mo_print_263 : decode b_Mo_print 263 = .ok (.aload_n 0, 1) := by decide +kernel
theorem d_Mo_print_264 : decode b_Mo_print 264 = .ok (.aload_n 0, 1) := by decide +kernel
theorem d_Mo_print_265 : decode b_Mo_print 265 = .ok (.getfield 522, 3) := by decide +kernel
theorem d_Mo_print_268 : decode b_Mo_print 268 = .ok (.getfield 624, 3) := by decide +kernel
theorem d_Mo_print_271 : decode b_Mo_print 271 = .ok (.iload_n 3, 1) := by decide +kernel
theorem d_Mo_print_272 : decode b_Mo_print 272 = .ok (.iaload, 1) := by decide +kernel
theorem d_Mo_print_273 : decode b_Mo_print 273 = .ok (.invokevirtual 1194, 3) := by decide +kernel
theorem d_Mo_print_276 : decode b_Mo_print 276 = .ok (.aload_n 0, 1) := by decide +kernel
theorem d_Mo_print_277 : decode b_Mo_print 277 = .ok (.getfield 522, 3) := by decide +kernel
theorem d_Mo_print_280 : decode b_Mo_print 280 = .ok (.getfield 633, 3) := by decide +kernel
theorem d_Mo_print_283 : decode b_Mo_print 283 = .ok (.iload_n 3, 1) := by decide +kernel
theorem d_Mo_print_284 : decode b_Mo_print 284 = .ok (.baload, 1) := by decide +kernel
theorem d_Mo_print_285 : decode b_Mo_print 285 = .ok (.ifCond .eq 23, 3) := by decide +kernel
theorem d_Mo_print_288 : decode b_Mo_print 288 = .ok (.aload_n 0, 1) := by decide +kernel
theorem d_Mo_print_289 : decode b_Mo_print 289 = .ok (.ldc_w 1218, 3) := by decide +kernel
theorem d_Mo_print_292 : decode b_Mo_print 292 = .ok (.invokevirtual 1187, 3) := by decide +kernel
theorem d_Mo_print_295 : decode b_Mo_print 295 = .ok (.aload_n 0, 1) := by decide +kernel
theorem d_Mo_print_296 : decode b_Mo_print 296 = .ok (.aload_n 0, 1) := by decide +kernel
theorem d_Mo_print_297 : decode b_Mo_print 297 = .ok (.getfield 522, 3) := by decide +kernel
theorem d_Mo_print_300 : decode b_Mo_print 300 = .ok (.getfield 630, 3) := by decide +kernel
theorem d_Mo_print_303 : decode b_Mo_print 303 = .ok (.iload_n 3, 1) := by decide +kernel
theorem d_Mo_print_304 : decode b_Mo_print 304 = .ok (.iaload, 1) := by decide +kernel
theorem d_Mo_print_305 : decode b_Mo_print 305 = .ok (.invokevirtual 1220, 3) := by decide +kernel
theorem d_Mo_print_308 : decode b_Mo_print 308 = .ok (.aload_n 0, 1) := by decide +kernel
theorem d_Mo_print_309 : decode b_Mo_print 309 = .ok (.bipush 10, 2) := by decide +kernel
theorem d_Mo_print_311 : decode b_Mo_print 311 = .ok (.invokevirtual 1179, 3) := by decide +kernel
theorem d_Mo_print_314 : decode b_Mo_print 314 = .ok (.iinc 3 1, 3) := by decide +kernel
theorem d_Mo_print_317 : decode b_Mo_print 317 = .ok (.goto (-111), 3) := by decide +kernel
theorem d_Mo_print_320 : decode b_Mo_print 320 = .ok (.bipush 12, 2) := by decide +kernel
theorem d_Mo_print_322 : decode b_Mo_print 322 = .ok (.iload_n 2, 1) := by decide +kernel
theorem d_Mo_print_323 : decode b_Mo_print 323 = .ok (.imul, 1) := by decide +kernel
theorem d_Mo_print_324 : decode b_Mo_print 324 = .ok (.istore_n 3, 1) := by decide +kernel
theorem d_Mo_print_325 : decode b_Mo_print 325 = .ok (.iload_n 3, 1) := by decide +kernel
theorem d_Mo_print_326 : decode b_Mo_print 326 = .ok (.bipush 12, 2) := by decide +kernel
theorem d_Mo_print_328 : decode b_Mo_print 328 = .ok (.iload_n 2, 1) := by decide +kernel
theorem d_Mo_print_329 : decode b_Mo_print 329 = .ok (.imul, 1) := by decide +kernel
theorem d_Mo_print_330 : decode b_Mo_print 330 = .ok (.aload_n 0, 1) := by decide +kernel
theorem d_Mo_print_331 : decode b_Mo_print 331 = .ok (.getfield 522, 3) := by decide +kernel
theorem d_Mo_print_334 : decode b_Mo_print 334 = .ok (.getfield 438, 3) := by decide +kernel
theorem d_Mo_print_337 : decode b_Mo_print 337 = .ok (.iload_n 2, 1) := by decide +kernel
theorem d_Mo_print_338 : decode b_Mo_print 338 = .ok (.iaload, 1) := by decide +kernel
theorem d_Mo_print_339 : decode b_Mo_print 339 = .ok (.iadd, 1) := by decide +kernel
theorem d_Mo_print_340 : decode b_Mo_print 340 = .ok (.if_icmp .ge 14, 3) := by decide +kernel
theorem d_Mo_print_343 : decode b_Mo_print 343 = .ok (.aload_n 0, 1) := by decide +kernel
theorem d_Mo_print_344 : decode b_Mo_print 344 = .ok (.iload_n 3, 1) := by decide +kernel
theorem d_Mo_print_345 : decode b_Mo_print 345 = .ok (.invokevirtual 1223, 3) := by decide +kernel
theorem d_Mo_print_348 : decode b_Mo_print 348 = .ok (.iinc 3 1, 3) := by decide +kernel
theorem d_Mo_print_351 : decode b_Mo_print 351 = .ok (.goto (-26), 3) := by decide +kernel
theorem d_Mo_print_354 : decode b_Mo_print 354 = .ok (.aload_n 0, 1) := by decide +kernel
theorem d_Mo_print_355 : decode b_Mo_print 355 = .ok (.ldc 205, 2) := by decide +kernel
theorem d_Mo_print_357 : decode b_Mo_print 357 = .ok (.invokevirtual 1187, 3) := by decide +kernel
theorem d_Mo_print_360 : decode b_Mo_print 360 = .ok (.aload_n 0, 1) := by decide +kernel
theorem d_Mo_print_361 : decode b_Mo_print 361 = .ok (.bipush 10, 2) := by decide +kernel
theorem d_Mo_print_363 : decode b_Mo_print 363 = .ok (.invokevirtual 1179, 3) := by decide +kernel
theorem d_Mo_print_366 : decode b_Mo_print 366 = .ok (.aload_n 0, 1) := by decide +kernel
theorem d_Mo_print_367 : decode b_Mo_print 367 = .ok (.getfield 1176, 3) := by decide +kernel
theorem d_Mo_print_370 : decode b_Mo_print 370 = .ok (.ireturn, 1) := by decide +kernel
abbrev ra_Mo_print (mc ms : Nat) : Room := { frames := 9, cells := mc, slots := ms, locals := 289 }
def wja_Mo_print_15 (mc ms : Nat) (Post : Ly → St → Int32 → Nat → Nat → Prop) (a0 : Nat) (y_j15 : Ly) (s_j15 : St) (d_j15 e_j15 : Nat) : Prop := (d_j15 ≤ mc ∧ e_j15 ≤ ms) ∧ Post y_j15 s_j15 (-1) d_j15 e_j15
def wba_Mo_print_325 (mc ms : Nat) (Post : Ly → St → Int32 → Nat → Nat → Prop) (K_325 : Ly → St → Nat → Nat → Int32 → Int32 → Prop) (a0 : Nat) (y_h325 : Ly) (s_h325 : St) (d_h325 e_h325 : Nat) (x2h325 : Int32) (x3h325 : Int32) : Prop := (d_h325 ≤ mc ∧ e_h325 ≤ ms) ∧ ∃ b_99 : Nat, sO s_h325 a0 45 = some b_99 ∧ cl b_99 = 13 ∧ xA y_h325 s_h325 b_99 9 x2h325 (fun x_102 : Int32 => ((((12 * x2h325) + x_102) ≤ x3h325 → ∃ mc_108 ms_109 : Nat, (d_h325 + mc_108 ≤ mc ∧ e_h325 + ms_109 ≤ ms) ∧ wa_Mo_putWord mc_108 ms_109 y_h325 (fun (y_105 : Ly) (s_104 : St) (d_106 e_107 : Nat) => (d_h325 + d_106 ≤ mc ∧ e_h325 + e_107 ≤ ms) ∧ ∃ mc_116 ms_117 : Nat, (d_h325 + d_106 + mc_116 ≤ mc ∧ e_h325 + e_107 + ms_117 ≤ ms) ∧ wa_Mo_put mc_116 ms_117 y_105 (fun (y_113 : Ly) (s_112 : St) (d_114 e_115 : Nat) => (d_h325 + d_106 + d_114 ≤ mc ∧ e_h325 + e_107 + e_115 ≤ ms) ∧ Post y_113 s_112 (sV s_112 a0 95) (d_h325 + d_106 + d_114) (e_h325 + e_107 + e_115)) s_104 a0 10) s_h325 a0 29) ∧ (¬ (((12 * x2h325) + x_102) ≤ x3h325) → ∃ mc_124 ms_125 : Nat, (d_h325 + mc_124 ≤ mc ∧ e_h325 + ms_125 ≤ ms) ∧ wa_Mo_putMethod mc_124 ms_125 y_h325 (fun (y_121 : Ly) (s_120 : St) (d_122 e_123 : Nat) => (d_h325 + d_122 ≤ mc ∧ e_h325 + e_123 ≤ ms) ∧ K_325 y_121 s_120 (d_h325 + d_122) (e_h325 + e_123) x2h325 (x3h325 + 1)) s_h325 a0 x3h325)))
def wla_Mo_print_325 (mc ms : Nat) (Post : Ly → St → Int32 → Nat → Nat → Prop) (a0 : Nat) (y_h325 : Ly) (s_h325 : St) (d_h325 e_h325 : Nat) (x2h325 : Int32) (x3h325 : Int32) : Prop := ∃ (I : Ly → St → Nat → Nat → Int32 → Int32 → Prop) (μ : Ly → St → Nat → Nat → Int32 → Int32 → Nat), I y_h325 s_h325 d_h325 e_h325 x2h325 x3h325 ∧ ∀ (u1 : Ly) (u2 : St) (u3 u4 : Nat) (t0 : Int32) (t1 : Int32), I u1 u2 u3 u4 t0 t1 → wba_Mo_print_325 mc ms Post (fun z1 z2 z3 z4 t0q t1q => I z1 z2 z3 z4 t0q t1q ∧ μ z1 z2 z3 z4 t0q t1q < μ u1 u2 u3 u4 t0 t1) a0 u1 u2 u3 u4 t0 t1
def wja_Mo_print_308 (mc ms : Nat) (Post : Ly → St → Int32 → Nat → Nat → Prop) (K_206 : Ly → St → Nat → Nat → Int32 → Int32 → Prop) (a0 : Nat) (y_j308 : Ly) (s_j308 : St) (d_j308 e_j308 : Nat) (x2j308 : Int32) (x3j308 : Int32) : Prop := (d_j308 ≤ mc ∧ e_j308 ≤ ms) ∧ ∃ mc_188 ms_189 : Nat, (d_j308 + mc_188 ≤ mc ∧ e_j308 + ms_189 ≤ ms) ∧ wa_Mo_put mc_188 ms_189 y_j308 (fun (y_185 : Ly) (s_184 : St) (d_186 e_187 : Nat) => (d_j308 + d_186 ≤ mc ∧ e_j308 + e_187 ≤ ms) ∧ K_206 y_185 s_184 (d_j308 + d_186) (e_j308 + e_187) x2j308 (x3j308 + 1)) s_j308 a0 10
def wba_Mo_print_206 (mc ms : Nat) (Post : Ly → St → Int32 → Nat → Nat → Prop) (K_206 : Ly → St → Nat → Nat → Int32 → Int32 → Prop) (a0 : Nat) (y_h206 : Ly) (s_h206 : St) (d_h206 e_h206 : Nat) (x2h206 : Int32) (x3h206 : Int32) : Prop := (d_h206 ≤ mc ∧ e_h206 ≤ ms) ∧ ∃ b_95 : Nat, sO s_h206 a0 45 = some b_95 ∧ cl b_95 = 13 ∧ xA y_h206 s_h206 b_95 8 x2h206 (fun x_98 : Int32 => ((((8 * x2h206) + x_98) ≤ x3h206 → wla_Mo_print_325 mc ms Post a0 y_h206 s_h206 d_h206 e_h206 x2h206 (12 * x2h206)) ∧ (¬ (((8 * x2h206) + x_98) ≤ x3h206) → ∃ mc_132 ms_133 : Nat, (d_h206 + mc_132 ≤ mc ∧ e_h206 + ms_133 ≤ ms) ∧ wa_Mo_putWord mc_132 ms_133 y_h206 (fun (y_129 : Ly) (s_128 : St) (d_130 e_131 : Nat) => (d_h206 + d_130 ≤ mc ∧ e_h206 + e_131 ≤ ms) ∧ ∃ b_135 : Nat, sO s_128 a0 45 = some b_135 ∧ cl b_135 = 13 ∧ xA y_129 s_128 b_135 14 x3h206 (fun x_138 : Int32 => ∃ mc_144 ms_145 : Nat, (d_h206 + d_130 + mc_144 ≤ mc ∧ e_h206 + e_131 + ms_145 ≤ ms) ∧ wa_Mo_putFlags mc_144 ms_145 y_129 (fun (y_141 : Ly) (s_140 : St) (d_142 e_143 : Nat) => (d_h206 + d_130 + d_142 ≤ mc ∧ e_h206 + e_131 + e_143 ≤ ms) ∧ ∃ b_147 : Nat, sO s_140 a0 45 = some b_147 ∧ cl b_147 = 13 ∧ xA y_141 s_140 b_147 12 x3h206 (fun x_150 : Int32 => ∃ mc_156 ms_157 : Nat, (d_h206 + d_130 + d_142 + mc_156 ≤ mc ∧ e_h206 + e_131 + e_143 + ms_157 ≤ ms) ∧ wa_Mo_putName mc_156 ms_157 y_141 (fun (y_153 : Ly) (s_152 : St) (d_154 e_155 : Nat) => (d_h206 + d_130 + d_142 + d_154 ≤ mc ∧ e_h206 + e_131 + e_143 + e_155 ≤ ms) ∧ ∃ mc_164 ms_165 : Nat, (d_h206 + d_130 + d_142 + d_154 + mc_164 ≤ mc ∧ e_h206 + e_131 + e_143 + e_155 + ms_165 ≤ ms) ∧ wa_Mo_put mc_164 ms_165 y_153 (fun (y_161 : Ly) (s_160 : St) (d_162 e_163 : Nat) => (d_h206 + d_130 + d_142 + d_154 + d_162 ≤ mc ∧ e_h206 + e_131 + e_143 + e_155 + e_163 ≤ ms) ∧ ∃ b_167 : Nat, sO s_160 a0 45 = some b_167 ∧ cl b_167 = 13 ∧ xA y_161 s_160 b_167 13 x3h206 (fun x_170 : Int32 => ∃ mc_176 ms_177 : Nat, (d_h206 + d_130 + d_142 + d_154 + d_162 + mc_176 ≤ mc ∧ e_h206 + e_131 + e_143 + e_155 + e_163 + ms_177 ≤ ms) ∧ wa_Mo_putType mc_176 ms_177 y_161 (fun (y_173 : Ly) (s_172 : St) (d_174 e_175 : Nat) => (d_h206 + d_130 + d_142 + d_154 + d_162 + d_174 ≤ mc ∧ e_h206 + e_131 + e_143 + e_155 + e_163 + e_175 ≤ ms) ∧ ∃ b_179 : Nat, sO s_172 a0 45 = some b_179 ∧ cl b_179 = 13 ∧ xA y_173 s_172 b_179 16 x3h206 (fun x_182 : Int32 => ((x_182 = 0 → wja_Mo_print_308 mc ms Post K_206 a0 y_173 s_172 (d_h206 + d_130 + d_142 + d_154 + d_162 + d_174) (e_h206 + e_131 + e_143 + e_155 + e_163 + e_175) x2h206 x3h206) ∧ (¬ (x_182 = 0) → ∃ mc_196 ms_197 : Nat, (d_h206 + d_130 + d_142 + d_154 + d_162 + d_174 + mc_196 ≤ mc ∧ e_h206 + e_131 + e_143 + e_155 + e_163 + e_175 + ms_197 ≤ ms) ∧ wa_Mo_putWord mc_196 ms_197 y_173 (fun (y_193 : Ly) (s_192 : St) (d_194 e_195 : Nat) => (d_h206 + d_130 + d_142 + d_154 + d_162 + d_174 + d_194 ≤ mc ∧ e_h206 + e_131 + e_143 + e_155 + e_163 + e_175 + e_195 ≤ ms) ∧ ∃ b_199 : Nat, sO s_192 a0 45 = some b_199 ∧ cl b_199 = 13 ∧ xA y_193 s_192 b_199 15 x3h206 (fun x_202 : Int32 => ∃ mc_208 ms_209 : Nat, (d_h206 + d_130 + d_142 + d_154 + d_162 + d_174 + d_194 + mc_208 ≤ mc ∧ e_h206 + e_131 + e_143 + e_155 + e_163 + e_175 + e_195 + ms_209 ≤ ms) ∧ wa_Mo_putNumber mc_208 ms_209 y_193 (fun (y_205 : Ly) (s_204 : St) (d_206 e_207 : Nat) => (d_h206 + d_130 + d_142 + d_154 + d_162 + d_174 + d_194 + d_206 ≤ mc ∧ e_h206 + e_131 + e_143 + e_155 + e_163 + e_175 + e_195 + e_207 ≤ ms) ∧ wja_Mo_print_308 mc ms Post K_206 a0 y_205 s_204 (d_h206 + d_130 + d_142 + d_154 + d_162 + d_174 + d_194 + d_206) (e_h206 + e_131 + e_143 + e_155 + e_163 + e_175 + e_195 + e_207) x2h206 x3h206) s_192 a0 x_202)) s_172 a0 48)))) s_160 a0 x_170)) s_152 a0 32) s_140 a0 x_150)) s_128 a0 x_138)) s_h206 a0 44)))
def wla_Mo_print_206 (mc ms : Nat) (Post : Ly → St → Int32 → Nat → Nat → Prop) (a0 : Nat) (y_h206 : Ly) (s_h206 : St) (d_h206 e_h206 : Nat) (x2h206 : Int32) (x3h206 : Int32) : Prop := ∃ (I : Ly → St → Nat → Nat → Int32 → Int32 → Prop) (μ : Ly → St → Nat → Nat → Int32 → Int32 → Nat), I y_h206 s_h206 d_h206 e_h206 x2h206 x3h206 ∧ ∀ (u1 : Ly) (u2 : St) (u3 u4 : Nat) (t0 : Int32) (t1 : Int32), I u1 u2 u3 u4 t0 t1 → wba_Mo_print_206 mc ms Post (fun z1 z2 z3 z4 t0q t1q => I z1 z2 z3 z4 t0q t1q ∧ μ z1 z2 z3 z4 t0q t1q < μ u1 u2 u3 u4 t0 t1) a0 u1 u2 u3 u4 t0 t1
def wba_Mo_print_152 (mc ms : Nat) (Post : Ly → St → Int32 → Nat → Nat → Prop) (K_152 : Ly → St → Nat → Nat → Int32 → Int32 → Prop) (a0 : Nat) (y_h152 : Ly) (s_h152 : St) (d_h152 e_h152 : Nat) (x2h152 : Int32) (x3h152 : Int32) : Prop := (d_h152 ≤ mc ∧ e_h152 ≤ ms) ∧ ∃ b_83 : Nat, sO s_h152 a0 45 = some b_83 ∧ cl b_83 = 13 ∧ xA y_h152 s_h152 b_83 7 x2h152 (fun x_86 : Int32 => ((x_86 ≤ x3h152 → ∃ mc_92 ms_93 : Nat, (d_h152 + mc_92 ≤ mc ∧ e_h152 + ms_93 ≤ ms) ∧ wa_Mo_put mc_92 ms_93 y_h152 (fun (y_89 : Ly) (s_88 : St) (d_90 e_91 : Nat) => (d_h152 + d_90 ≤ mc ∧ e_h152 + e_91 ≤ ms) ∧ wla_Mo_print_206 mc ms Post a0 y_89 s_88 (d_h152 + d_90) (e_h152 + e_91) x2h152 (8 * x2h152)) s_h152 a0 10) ∧ (¬ (x_86 ≤ x3h152) → ∃ mc_216 ms_217 : Nat, (d_h152 + mc_216 ≤ mc ∧ e_h152 + ms_217 ≤ ms) ∧ wa_Mo_putWord mc_216 ms_217 y_h152 (fun (y_213 : Ly) (s_212 : St) (d_214 e_215 : Nat) => (d_h152 + d_214 ≤ mc ∧ e_h152 + e_215 ≤ ms) ∧ ∃ b_219 : Nat, sO s_212 a0 45 = some b_219 ∧ cl b_219 = 13 ∧ xA y_213 s_212 b_219 6 ((4 * x2h152) + x3h152) (fun x_222 : Int32 => ∃ mc_228 ms_229 : Nat, (d_h152 + d_214 + mc_228 ≤ mc ∧ e_h152 + e_215 + ms_229 ≤ ms) ∧ wa_Mo_putName mc_228 ms_229 y_213 (fun (y_225 : Ly) (s_224 : St) (d_226 e_227 : Nat) => (d_h152 + d_214 + d_226 ≤ mc ∧ e_h152 + e_215 + e_227 ≤ ms) ∧ K_152 y_225 s_224 (d_h152 + d_214 + d_226) (e_h152 + e_215 + e_227) x2h152 (x3h152 + 1)) s_212 a0 x_222)) s_h152 a0 43)))
def wla_Mo_print_152 (mc ms : Nat) (Post : Ly → St → Int32 → Nat → Nat → Prop) (a0 : Nat) (y_h152 : Ly) (s_h152 : St) (d_h152 e_h152 : Nat) (x2h152 : Int32) (x3h152 : Int32) : Prop := ∃ (I : Ly → St → Nat → Nat → Int32 → Int32 → Prop) (μ : Ly → St → Nat → Nat → Int32 → Int32 → Nat), I y_h152 s_h152 d_h152 e_h152 x2h152 x3h152 ∧ ∀ (u1 : Ly) (u2 : St) (u3 u4 : Nat) (t0 : Int32) (t1 : Int32), I u1 u2 u3 u4 t0 t1 → wba_Mo_print_152 mc ms Post (fun z1 z2 z3 z4 t0q t1q => I z1 z2 z3 z4 t0q t1q ∧ μ z1 z2 z3 z4 t0q t1q < μ u1 u2 u3 u4 t0 t1) a0 u1 u2 u3 u4 t0 t1
def wja_Mo_print_104 (mc ms : Nat) (Post : Ly → St → Int32 → Nat → Nat → Prop) (a0 : Nat) (y_j104 : Ly) (s_j104 : St) (d_j104 e_j104 : Nat) (x2j104 : Int32) (z1j104 : Int32) : Prop := (d_j104 ≤ mc ∧ e_j104 ≤ ms) ∧ ∃ mc_40 ms_41 : Nat, (d_j104 + mc_40 ≤ mc ∧ e_j104 + ms_41 ≤ ms) ∧ wa_Mo_putFlag mc_40 ms_41 y_j104 (fun (y_37 : Ly) (s_36 : St) (d_38 e_39 : Nat) => (d_j104 + d_38 ≤ mc ∧ e_j104 + e_39 ≤ ms) ∧ ∃ mc_48 ms_49 : Nat, (d_j104 + d_38 + mc_48 ≤ mc ∧ e_j104 + e_39 + ms_49 ≤ ms) ∧ wa_Mo_putWord mc_48 ms_49 y_37 (fun (y_45 : Ly) (s_44 : St) (d_46 e_47 : Nat) => (d_j104 + d_38 + d_46 ≤ mc ∧ e_j104 + e_39 + e_47 ≤ ms) ∧ ∃ b_51 : Nat, sO s_44 a0 45 = some b_51 ∧ cl b_51 = 13 ∧ xA y_45 s_44 b_51 3 x2j104 (fun x_54 : Int32 => ∃ mc_60 ms_61 : Nat, (d_j104 + d_38 + d_46 + mc_60 ≤ mc ∧ e_j104 + e_39 + e_47 + ms_61 ≤ ms) ∧ wa_Mo_putName mc_60 ms_61 y_45 (fun (y_57 : Ly) (s_56 : St) (d_58 e_59 : Nat) => (d_j104 + d_38 + d_46 + d_58 ≤ mc ∧ e_j104 + e_39 + e_47 + e_59 ≤ ms) ∧ ∃ mc_68 ms_69 : Nat, (d_j104 + d_38 + d_46 + d_58 + mc_68 ≤ mc ∧ e_j104 + e_39 + e_47 + e_59 + ms_69 ≤ ms) ∧ wa_Mo_putWord mc_68 ms_69 y_57 (fun (y_65 : Ly) (s_64 : St) (d_66 e_67 : Nat) => (d_j104 + d_38 + d_46 + d_58 + d_66 ≤ mc ∧ e_j104 + e_39 + e_47 + e_59 + e_67 ≤ ms) ∧ ∃ b_71 : Nat, sO s_64 a0 45 = some b_71 ∧ cl b_71 = 13 ∧ xA y_65 s_64 b_71 4 x2j104 (fun x_74 : Int32 => ∃ mc_80 ms_81 : Nat, (d_j104 + d_38 + d_46 + d_58 + d_66 + mc_80 ≤ mc ∧ e_j104 + e_39 + e_47 + e_59 + e_67 + ms_81 ≤ ms) ∧ wa_Mo_putName mc_80 ms_81 y_65 (fun (y_77 : Ly) (s_76 : St) (d_78 e_79 : Nat) => (d_j104 + d_38 + d_46 + d_58 + d_66 + d_78 ≤ mc ∧ e_j104 + e_39 + e_47 + e_59 + e_67 + e_79 ≤ ms) ∧ wla_Mo_print_152 mc ms Post a0 y_77 s_76 (d_j104 + d_38 + d_46 + d_58 + d_66 + d_78) (e_j104 + e_39 + e_47 + e_59 + e_67 + e_79) x2j104 0) s_64 a0 x_74)) s_56 a0 42) s_44 a0 x_54)) s_36 a0 41) s_j104 a0 z1j104 40
def wja_Mo_print_78 (mc ms : Nat) (Post : Ly → St → Int32 → Nat → Nat → Prop) (a0 : Nat) (y_j78 : Ly) (s_j78 : St) (d_j78 e_j78 : Nat) (x2j78 : Int32) (z1j78 : Int32) : Prop := (d_j78 ≤ mc ∧ e_j78 ≤ ms) ∧ ∃ mc_28 ms_29 : Nat, (d_j78 + mc_28 ≤ mc ∧ e_j78 + ms_29 ≤ ms) ∧ wa_Mo_putFlag mc_28 ms_29 y_j78 (fun (y_25 : Ly) (s_24 : St) (d_26 e_27 : Nat) => (d_j78 + d_26 ≤ mc ∧ e_j78 + e_27 ≤ ms) ∧ ∃ b_31 : Nat, sO s_24 a0 45 = some b_31 ∧ cl b_31 = 13 ∧ xA y_25 s_24 b_31 5 x2j78 (fun x_34 : Int32 => (((x_34 &&& 4) = 0 → wja_Mo_print_104 mc ms Post a0 y_25 s_24 (d_j78 + d_26) (e_j78 + e_27) x2j78 0) ∧ (¬ ((x_34 &&& 4) = 0) → wja_Mo_print_104 mc ms Post a0 y_25 s_24 (d_j78 + d_26) (e_j78 + e_27) x2j78 1)))) s_j78 a0 z1j78 39
def wja_Mo_print_52 (mc ms : Nat) (Post : Ly → St → Int32 → Nat → Nat → Prop) (a0 : Nat) (y_j52 : Ly) (s_j52 : St) (d_j52 e_j52 : Nat) (x2j52 : Int32) (z1j52 : Int32) : Prop := (d_j52 ≤ mc ∧ e_j52 ≤ ms) ∧ ∃ mc_16 ms_17 : Nat, (d_j52 + mc_16 ≤ mc ∧ e_j52 + ms_17 ≤ ms) ∧ wa_Mo_putFlag mc_16 ms_17 y_j52 (fun (y_13 : Ly) (s_12 : St) (d_14 e_15 : Nat) => (d_j52 + d_14 ≤ mc ∧ e_j52 + e_15 ≤ ms) ∧ ∃ b_19 : Nat, sO s_12 a0 45 = some b_19 ∧ cl b_19 = 13 ∧ xA y_13 s_12 b_19 5 x2j52 (fun x_22 : Int32 => (((x_22 &&& 2) = 0 → wja_Mo_print_78 mc ms Post a0 y_13 s_12 (d_j52 + d_14) (e_j52 + e_15) x2j52 0) ∧ (¬ ((x_22 &&& 2) = 0) → wja_Mo_print_78 mc ms Post a0 y_13 s_12 (d_j52 + d_14) (e_j52 + e_15) x2j52 1)))) s_j52 a0 z1j52 38
def wa_Mo_print (mc ms : Nat) (y : Ly) (Post : Ly → St → Int32 → Nat → Nat → Prop) (σ : St) (a0 : Nat) (v1 : Int32) (v2 : Int32) : Prop := wu_Mo_isClass y (fun (s_2 : St) (r_1 : Int32) => ((r_1 = 0 → wja_Mo_print_15 mc ms Post a0 y s_2 0 0) ∧ (¬ (r_1 = 0) → ((21 ≤ v2 → xQ y a0 44 v1 (fun b_3 : Nat => xP (uO s_2 a0 45 (some b_3)) (fun s_5 : St => xP (uV s_5 a0 95 0) (fun s_6 : St => ∃ b_7 : Nat, sO s_6 a0 45 = some b_7 ∧ cl b_7 = 13 ∧ xA y s_6 b_7 5 v2 (fun x_10 : Int32 => (((x_10 &&& 1) = 0 → wja_Mo_print_52 mc ms Post a0 y s_6 0 0 v2 0) ∧ (¬ ((x_10 &&& 1) = 0) → wja_Mo_print_52 mc ms Post a0 y s_6 0 0 v2 1))))))) ∧ (¬ (21 ≤ v2) → wja_Mo_print_15 mc ms Post a0 y s_2 0 0))))) σ a0 v1 v2
set_option maxHeartbeats 4000000 in
set_option maxRecDepth 100000 in
theorem ca_Mo_print (l : Launch) (D : va_G) (g : Nat → ClassId) (F : Nat → SL) (sl : List SL) (hF : SOK F sl) (ad : Nat → Nat) (mc ms : Nat) (y : Ly) (Post : Ly → St → Int32 → Nat → Nat → Prop) (σ : St) (a0 : Nat) (v1 : Int32) (v2 : Int32) (sz uz : Nat) (h_a0 : cl a0 = 14) (h : wa_Mo_print mc ms y Post σ a0 v1 v2) : Met l y_Mo_print (mw y_Mo_print b_Mo_print 4 (some .int)) (ra_Mo_print mc ms) (PCu g D sl [.ref (ad a0), .int v1, .int v2] sz uz (ws g ad y σ)) (va_Qi (fun (r : Int32) (u : Ly × St × Nat × Nat) => Post u.1 u.2.1 r u.2.2.1 u.2.2.2) (QU D (va_A (ws g ad y σ) sz) (fun u => ws g ad u.1 u.2.1) sz uz (fun u => u.2.2.1) (fun u => u.2.2.2)) (va_A (ws g ad y σ) sz)) mc ms (va_A (ws g ad y σ) sz) := by
  refine ofIu (by decide +kernel) (Nat.le_of_ble_eq_true rfl) ?_
  intro p e s m args below meth c A Q ls H locs G hsz hP hD hS hl hret
  subst hsz
  have hl : lv_has ls 4 [(0, .ref (ad a0)), (1, .int v1), (2, .int v2)] := hl
  have hd : 0 ≤ mc ∧ 0 ≤ ms := ⟨Nat.zero_le _, Nat.zero_le _⟩
  unfold wa_Mo_print at h
  refine lv_aload_n G.1 G.2.1 d_Mo_print_0 rfl (lv_at hl 0 rfl) ?_
  refine lv_iload_n G.1 G.2.1 d_Mo_print_1 rfl (lv_at hl 1 rfl) ?_
  refine lv_iload_n G.1 G.2.1 d_Mo_print_2 rfl (lv_at hl 2 rfl) ?_
  refine ucVi (As := [.int v1, .int v2]) (rest := []) G hP hD hS (cu_Mo_isClass l D g ad y _ σ a0 v1 v2 H.size h_a0 h) w9_Mo_isClass q3661 ⟨Nat.le_of_ble_eq_true rfl, Nat.le_of_ble_eq_true rfl⟩ rfl rfl h_a0 (q := (RMo, TMo, 131)) rfl rfl hl.1 rfl (Nat.le_of_ble_eq_true rfl) rfl hd d_Mo_print_3 (fun r_1 s_2 H locs h hP hD hS => ?_)
  have J_15 : ∀ (y_j15 : Ly) (s_j15 : St) (d_j15 e_j15 : Nat) (H : Heap) (locs : List Loc), wja_Mo_print_15 mc ms Post a0 y_j15 s_j15 d_j15 e_j15 → va_P D CL (ws g ad y_j15 s_j15) H → va_D A (ws g ad y_j15 s_j15) → va_S A s.heap H locs → ∀ ls, lv_has ls 4 [] → W p l e (ra_Mo_print mc ms) s m args below meth c H locs d_j15 e_j15 Q (F0 m 15 ls []) := by
    intro y_j15 s_j15 d_j15 e_j15 H locs h hP hD hS ls hl
    unfold wja_Mo_print_15 at h
    obtain ⟨hd, h⟩ := h
    refine lv_iconst (v := (-1)) G.1 G.2.1 d_Mo_print_15 (by decide) ?_
    exact hret _ (y_j15, s_j15, d_j15, e_j15) _ _ _ _ _ ls h hP hD hS (Nat.le_refl _) (Nat.le_refl _) hd.1 hd.2 d_Mo_print_16
  refine lv_if_eq (tgt := 15) G.1 G.2.1 d_Mo_print_6 (by decide) (fun c6 => ?_) (fun c6 => ?_)
  · skip
    have h := h.1 c6
    exact J_15 y s_2 0 0 H locs h hP hD hS ls (lv_sub hl [] rfl)
  · skip
    have h := h.2 c6
    refine lv_iload_n G.1 G.2.1 d_Mo_print_9 rfl (lv_at hl 2 rfl) ?_
    refine lv_bipush (v := 21) G.1 G.2.1 d_Mo_print_10 (by decide) ?_
    refine lv_icmp_ge (tgt := 17) G.1 G.2.1 d_Mo_print_12 (by decide) (fun c12 => ?_) (fun c12 => ?_)
    · skip
      have h := h.1 c12
      refine lv_aload_n G.1 G.2.1 d_Mo_print_17 rfl (lv_at hl 0 rfl) ?_
      refine lv_aload_n G.1 G.2.1 d_Mo_print_18 rfl (lv_at hl 0 rfl) ?_
      refine ugf (v := .ref (yP y a0 44)) G hP h_a0 iMo rfl 44 (by decide) rfl q3108 rfl rfl d_Mo_print_19 ?_
      refine W.eq (g2 := F0 m 22 ls [.ref (yP y a0 44), .ref (ad a0)]) rfl ?_
      refine lv_iload_n G.1 G.2.1 d_Mo_print_22 rfl (lv_at hl 1 rfl) ?_
      refine uqald G hP (kdp h_a0 rfl) (typ h_a0 rfl) rfl h d_Mo_print_23 (fun b_3 n_4 h => ?_)
      refine upf G hP hD hS h 45 putO h_a0 iMo tMo tMo_ok nMo rfl (by decide) rfl q3109 rfl rfl fO rfl rfl d_Mo_print_24 (fun s_5 H locs h hP hD hS => ?_)
      refine lv_aload_n G.1 G.2.1 d_Mo_print_27 rfl (lv_at hl 0 rfl) ?_
      refine lv_iconst (v := 0) G.1 G.2.1 d_Mo_print_28 (by decide) ?_
      refine upf G hP hD hS h 95 putV h_a0 iMo tMo tMo_ok nMo rfl (by decide) rfl q3159 rfl rfl fV rfl rfl d_Mo_print_29 (fun s_6 H locs h hP hD hS => ?_)
      refine lv_aload_n G.1 G.2.1 d_Mo_print_32 rfl (lv_at hl 0 rfl) ?_
      refine lv_aload_n G.1 G.2.1 d_Mo_print_33 rfl (lv_at hl 0 rfl) ?_
      obtain ⟨b_7, e_8, c_9, h⟩ := h
      refine ugf (v := .ref (ad b_7)) G hP h_a0 iMo rfl 45 (by decide) rfl q3109 rfl (by show va_rf ((sO s_6 a0 45).map ad) = _; rw [e_8]; rfl) d_Mo_print_34 ?_
      refine ugfN (v := .ref (yP y b_7 5)) G hP c_9 iMw rfl 5 (by decide) rfl q2714 rfl rfl d_Mo_print_37 ?_
      refine lv_iload_n G.1 G.2.1 d_Mo_print_40 rfl (lv_at hl 2 rfl) ?_
      refine uiald G hP (kdp c_9 rfl) (typ c_9 rfl) h d_Mo_print_41 (fun x_10 h => ?_)
      refine W.eq (g2 := F0 m 42 ls [.int x_10, .ref (ad a0)]) rfl ?_
      refine lv_iconst (v := 1) G.1 G.2.1 d_Mo_print_42 (by decide) ?_
      refine lv_iand G.1 G.2.1 d_Mo_print_43 ?_
      have J_52 : ∀ (y_j52 : Ly) (s_j52 : St) (d_j52 e_j52 : Nat) (x2j52 : Int32) (z1j52 : Int32) (H : Heap) (locs : List Loc), wja_Mo_print_52 mc ms Post a0 y_j52 s_j52 d_j52 e_j52 x2j52 z1j52 → va_P D CL (ws g ad y_j52 s_j52) H → va_D A (ws g ad y_j52 s_j52) → va_S A s.heap H locs → ∀ ls, lv_has ls 4 [(0, .ref (ad a0)), (2, .int x2j52)] → W p l e (ra_Mo_print mc ms) s m args below meth c H locs d_j52 e_j52 Q (F0 m 52 ls [.int z1j52, .ref (ad a0)]) := by
        intro y_j52 s_j52 d_j52 e_j52 x2j52 z1j52 H locs h hP hD hS ls hl
        unfold wja_Mo_print_52 at h
        obtain ⟨hd, h⟩ := h
        refine uldcw (n := 38) hF rfl G d_Mo_print_52 ?_
        obtain ⟨mc_16, ms_17, hr_18, h⟩ := h
        refine utVv (As := [.int z1j52, .ref (sk (F 38))]) (rest := []) G hP hD hS (ca_Mo_putFlag l D g F sl hF ad mc_16 ms_17 y_j52 _ s_j52 a0 z1j52 38 H.size (us H) h_a0 (by decide +kernel) h) w9_Mo_putFlag q4047 ⟨Nat.le_of_ble_eq_true rfl, Nat.le_of_ble_eq_true rfl⟩ rfl rfl h_a0 (q := (RMo, TMo, 131)) rfl rfl hl.1 rfl (Nat.le_of_ble_eq_true rfl) rfl hr_18 d_Mo_print_55 (fun y_13 s_12 d_14 e_15 H locs h hP hD hS => ?_)
        obtain ⟨hd, h⟩ := h
        refine lv_aload_n G.1 G.2.1 d_Mo_print_58 rfl (lv_at hl 0 rfl) ?_
        refine lv_aload_n G.1 G.2.1 d_Mo_print_59 rfl (lv_at hl 0 rfl) ?_
        obtain ⟨b_19, e_20, c_21, h⟩ := h
        refine ugf (v := .ref (ad b_19)) G hP h_a0 iMo rfl 45 (by decide) rfl q3109 rfl (by show va_rf ((sO s_12 a0 45).map ad) = _; rw [e_20]; rfl) d_Mo_print_60 ?_
        refine ugfN (v := .ref (yP y_13 b_19 5)) G hP c_21 iMw rfl 5 (by decide) rfl q2714 rfl rfl d_Mo_print_63 ?_
        refine lv_iload_n G.1 G.2.1 d_Mo_print_66 rfl (lv_at hl 1 rfl) ?_
        refine uiald G hP (kdp c_21 rfl) (typ c_21 rfl) h d_Mo_print_67 (fun x_22 h => ?_)
        refine lv_iconst (v := 2) G.1 G.2.1 d_Mo_print_68 (by decide) ?_
        refine lv_iand G.1 G.2.1 d_Mo_print_69 ?_
        have J_78 : ∀ (y_j78 : Ly) (s_j78 : St) (d_j78 e_j78 : Nat) (x2j78 : Int32) (z1j78 : Int32) (H : Heap) (locs : List Loc), wja_Mo_print_78 mc ms Post a0 y_j78 s_j78 d_j78 e_j78 x2j78 z1j78 → va_P D CL (ws g ad y_j78 s_j78) H → va_D A (ws g ad y_j78 s_j78) → va_S A s.heap H locs → ∀ ls, lv_has ls 4 [(0, .ref (ad a0)), (2, .int x2j78)] → W p l e (ra_Mo_print mc ms) s m args below meth c H locs d_j78 e_j78 Q (F0 m 78 ls [.int z1j78, .ref (ad a0)]) := by
          intro y_j78 s_j78 d_j78 e_j78 x2j78 z1j78 H locs h hP hD hS ls hl
          unfold wja_Mo_print_78 at h
          obtain ⟨hd, h⟩ := h
          refine uldcw (n := 39) hF rfl G d_Mo_print_78 ?_
          obtain ⟨mc_28, ms_29, hr_30, h⟩ := h
          refine utVv (As := [.int z1j78, .ref (sk (F 39))]) (rest := []) G hP hD hS (ca_Mo_putFlag l D g F sl hF ad mc_28 ms_29 y_j78 _ s_j78 a0 z1j78 39 H.size (us H) h_a0 (by decide +kernel) h) w9_Mo_putFlag q4047 ⟨Nat.le_of_ble_eq_true rfl, Nat.le_of_ble_eq_true rfl⟩ rfl rfl h_a0 (q := (RMo, TMo, 131)) rfl rfl hl.1 rfl (Nat.le_of_ble_eq_true rfl) rfl hr_30 d_Mo_print_81 (fun y_25 s_24 d_26 e_27 H locs h hP hD hS => ?_)
          obtain ⟨hd, h⟩ := h
          refine lv_aload_n G.1 G.2.1 d_Mo_print_84 rfl (lv_at hl 0 rfl) ?_
          refine lv_aload_n G.1 G.2.1 d_Mo_print_85 rfl (lv_at hl 0 rfl) ?_
          obtain ⟨b_31, e_32, c_33, h⟩ := h
          refine ugf (v := .ref (ad b_31)) G hP h_a0 iMo rfl 45 (by decide) rfl q3109 rfl (by show va_rf ((sO s_24 a0 45).map ad) = _; rw [e_32]; rfl) d_Mo_print_86 ?_
          refine ugfN (v := .ref (yP y_25 b_31 5)) G hP c_33 iMw rfl 5 (by decide) rfl q2714 rfl rfl d_Mo_print_89 ?_
          refine lv_iload_n G.1 G.2.1 d_Mo_print_92 rfl (lv_at hl 1 rfl) ?_
          refine uiald G hP (kdp c_33 rfl) (typ c_33 rfl) h d_Mo_print_93 (fun x_34 h => ?_)
          refine lv_iconst (v := 4) G.1 G.2.1 d_Mo_print_94 (by decide) ?_
          refine lv_iand G.1 G.2.1 d_Mo_print_95 ?_
          have J_104 : ∀ (y_j104 : Ly) (s_j104 : St) (d_j104 e_j104 : Nat) (x2j104 : Int32) (z1j104 : Int32) (H : Heap) (locs : List Loc), wja_Mo_print_104 mc ms Post a0 y_j104 s_j104 d_j104 e_j104 x2j104 z1j104 → va_P D CL (ws g ad y_j104 s_j104) H → va_D A (ws g ad y_j104 s_j104) → va_S A s.heap H locs → ∀ ls, lv_has ls 4 [(0, .ref (ad a0)), (2, .int x2j104)] → W p l e (ra_Mo_print mc ms) s m args below meth c H locs d_j104 e_j104 Q (F0 m 104 ls [.int z1j104, .ref (ad a0)]) := by
            intro y_j104 s_j104 d_j104 e_j104 x2j104 z1j104 H locs h hP hD hS ls hl
            unfold wja_Mo_print_104 at h
            obtain ⟨hd, h⟩ := h
            refine uldcw (n := 40) hF rfl G d_Mo_print_104 ?_
            obtain ⟨mc_40, ms_41, hr_42, h⟩ := h
            refine utVv (As := [.int z1j104, .ref (sk (F 40))]) (rest := []) G hP hD hS (ca_Mo_putFlag l D g F sl hF ad mc_40 ms_41 y_j104 _ s_j104 a0 z1j104 40 H.size (us H) h_a0 (by decide +kernel) h) w9_Mo_putFlag q4047 ⟨Nat.le_of_ble_eq_true rfl, Nat.le_of_ble_eq_true rfl⟩ rfl rfl h_a0 (q := (RMo, TMo, 131)) rfl rfl hl.1 rfl (Nat.le_of_ble_eq_true rfl) rfl hr_42 d_Mo_print_107 (fun y_37 s_36 d_38 e_39 H locs h hP hD hS => ?_)
            obtain ⟨hd, h⟩ := h
            refine lv_aload_n G.1 G.2.1 d_Mo_print_110 rfl (lv_at hl 0 rfl) ?_
            refine uldcw (n := 41) hF rfl G d_Mo_print_111 ?_
            obtain ⟨mc_48, ms_49, hr_50, h⟩ := h
            refine utVv (As := [.ref (sk (F 41))]) (rest := []) G hP hD hS (ca_Mo_putWord l D g F sl hF ad mc_48 ms_49 y_37 _ s_36 a0 41 H.size (us H) h_a0 (by decide +kernel) h) w9_Mo_putWord q4051 ⟨Nat.le_of_ble_eq_true rfl, Nat.le_of_ble_eq_true rfl⟩ rfl rfl h_a0 (q := (RMo, TMo, 131)) rfl rfl hl.1 rfl (Nat.le_of_ble_eq_true rfl) rfl hr_50 d_Mo_print_114 (fun y_45 s_44 d_46 e_47 H locs h hP hD hS => ?_)
            obtain ⟨hd, h⟩ := h
            refine lv_aload_n G.1 G.2.1 d_Mo_print_117 rfl (lv_at hl 0 rfl) ?_
            refine lv_aload_n G.1 G.2.1 d_Mo_print_118 rfl (lv_at hl 0 rfl) ?_
            obtain ⟨b_51, e_52, c_53, h⟩ := h
            refine ugf (v := .ref (ad b_51)) G hP h_a0 iMo rfl 45 (by decide) rfl q3109 rfl (by show va_rf ((sO s_44 a0 45).map ad) = _; rw [e_52]; rfl) d_Mo_print_119 ?_
            refine ugfN (v := .ref (yP y_45 b_51 3)) G hP c_53 iMw rfl 3 (by decide) rfl q2710 rfl rfl d_Mo_print_122 ?_
            refine lv_iload_n G.1 G.2.1 d_Mo_print_125 rfl (lv_at hl 1 rfl) ?_
            refine uiald G hP (kdp c_53 rfl) (typ c_53 rfl) h d_Mo_print_126 (fun x_54 h => ?_)
            refine W.eq (g2 := F0 m 127 ls [.int x_54, .ref (ad a0)]) rfl ?_
            obtain ⟨mc_60, ms_61, hr_62, h⟩ := h
            refine uaVv (As := [.int x_54]) (rest := []) G hP hD hS (ca_Mo_putName l D g ad mc_60 ms_61 y_45 _ s_44 a0 x_54 H.size (us H) h_a0 h) w9_Mo_putName q4062 ⟨Nat.le_of_ble_eq_true rfl, Nat.le_of_ble_eq_true rfl⟩ rfl rfl h_a0 (q := (RMo, TMo, 131)) rfl rfl hl.1 rfl (Nat.le_of_ble_eq_true rfl) rfl hr_62 d_Mo_print_127 (fun y_57 s_56 d_58 e_59 H locs h hP hD hS => ?_)
            obtain ⟨hd, h⟩ := h
            refine lv_aload_n G.1 G.2.1 d_Mo_print_130 rfl (lv_at hl 0 rfl) ?_
            refine uldcw (n := 42) hF rfl G d_Mo_print_131 ?_
            obtain ⟨mc_68, ms_69, hr_70, h⟩ := h
            refine utVv (As := [.ref (sk (F 42))]) (rest := []) G hP hD hS (ca_Mo_putWord l D g F sl hF ad mc_68 ms_69 y_57 _ s_56 a0 42 H.size (us H) h_a0 (by decide +kernel) h) w9_Mo_putWord q4051 ⟨Nat.le_of_ble_eq_true rfl, Nat.le_of_ble_eq_true rfl⟩ rfl rfl h_a0 (q := (RMo, TMo, 131)) rfl rfl hl.1 rfl (Nat.le_of_ble_eq_true rfl) rfl hr_70 d_Mo_print_134 (fun y_65 s_64 d_66 e_67 H locs h hP hD hS => ?_)
            obtain ⟨hd, h⟩ := h
            refine lv_aload_n G.1 G.2.1 d_Mo_print_137 rfl (lv_at hl 0 rfl) ?_
            refine lv_aload_n G.1 G.2.1 d_Mo_print_138 rfl (lv_at hl 0 rfl) ?_
            obtain ⟨b_71, e_72, c_73, h⟩ := h
            refine ugf (v := .ref (ad b_71)) G hP h_a0 iMo rfl 45 (by decide) rfl q3109 rfl (by show va_rf ((sO s_64 a0 45).map ad) = _; rw [e_72]; rfl) d_Mo_print_139 ?_
            refine ugfN (v := .ref (yP y_65 b_71 4)) G hP c_73 iMw rfl 4 (by decide) rfl q2712 rfl rfl d_Mo_print_142 ?_
            refine lv_iload_n G.1 G.2.1 d_Mo_print_145 rfl (lv_at hl 1 rfl) ?_
            refine uiald G hP (kdp c_73 rfl) (typ c_73 rfl) h d_Mo_print_146 (fun x_74 h => ?_)
            obtain ⟨mc_80, ms_81, hr_82, h⟩ := h
            refine uaVv (As := [.int x_74]) (rest := []) G hP hD hS (ca_Mo_putName l D g ad mc_80 ms_81 y_65 _ s_64 a0 x_74 H.size (us H) h_a0 h) w9_Mo_putName q4062 ⟨Nat.le_of_ble_eq_true rfl, Nat.le_of_ble_eq_true rfl⟩ rfl rfl h_a0 (q := (RMo, TMo, 131)) rfl rfl hl.1 rfl (Nat.le_of_ble_eq_true rfl) rfl hr_82 d_Mo_print_147 (fun y_77 s_76 d_78 e_79 H locs h hP hD hS => ?_)
            obtain ⟨hd, h⟩ := h
            refine lv_iconst (v := 0) G.1 G.2.1 d_Mo_print_150 (by decide) ?_
            refine W.eq (g2 := F0 m 151 ls [.int 0]) rfl ?_
            refine lv_istore_n (lv' := [(3, .int 0), (0, .ref (ad a0)), (2, .int x2j104)]) G.1 G.2.1 d_Mo_print_151 rfl hl (by decide) rfl (fun ls hl => ?_)
            unfold wla_Mo_print_152 at h
            obtain ⟨I_152, μ_152, hI_152, hB_152⟩ := h
            have L_152 : ∀ (n_152 : Nat) (y_h152 : Ly) (s_h152 : St) (d_h152 e_h152 : Nat) (x2h152 : Int32) (x3h152 : Int32), μ_152 y_h152 s_h152 d_h152 e_h152 x2h152 x3h152 < n_152 → I_152 y_h152 s_h152 d_h152 e_h152 x2h152 x3h152 → ∀ (H : Heap) (locs : List Loc), va_P D CL (ws g ad y_h152 s_h152) H → va_D A (ws g ad y_h152 s_h152) → va_S A s.heap H locs → ∀ ls, lv_has ls 4 [(0, .ref (ad a0)), (2, .int x2h152), (3, .int x3h152)] → W p l e (ra_Mo_print mc ms) s m args below meth c H locs d_h152 e_h152 Q (F0 m 152 ls []) := by
              intro n_152
              induction n_152 with
              | zero => intro y_h152 s_h152 d_h152 e_h152 x2h152 x3h152 hμ; exact absurd hμ (Nat.not_lt_zero _)
              | succ n_152 ih_152 =>
                intro y_h152 s_h152 d_h152 e_h152 x2h152 x3h152 hμ_152 hJ H locs hP hD hS ls hl
                obtain ⟨K_152, hK_152, h⟩ : ∃ K : Ly → St → Nat → Nat → Int32 → Int32 → Prop, (∀ z1 z2 z3 z4 (t0 : Int32) (t1 : Int32), K z1 z2 z3 z4 t0 t1 → I_152 z1 z2 z3 z4 t0 t1 ∧ μ_152 z1 z2 z3 z4 t0 t1 < μ_152 y_h152 s_h152 d_h152 e_h152 x2h152 x3h152) ∧ wba_Mo_print_152 mc ms Post K a0 y_h152 s_h152 d_h152 e_h152 x2h152 x3h152 := ⟨_, fun _ _ _ _ _ _ h => h, hB_152 y_h152 s_h152 d_h152 e_h152 x2h152 x3h152 hJ⟩
                unfold wba_Mo_print_152 at h
                obtain ⟨hd, h⟩ := h
                refine lv_iload_n G.1 G.2.1 d_Mo_print_152 rfl (lv_at hl 2 rfl) ?_
                refine lv_aload_n G.1 G.2.1 d_Mo_print_153 rfl (lv_at hl 0 rfl) ?_
                obtain ⟨b_83, e_84, c_85, h⟩ := h
                refine ugf (v := .ref (ad b_83)) G hP h_a0 iMo rfl 45 (by decide) rfl q3109 rfl (by show va_rf ((sO s_h152 a0 45).map ad) = _; rw [e_84]; rfl) d_Mo_print_154 ?_
                refine ugfN (v := .ref (yP y_h152 b_83 7)) G hP c_85 iMw rfl 7 (by decide) rfl q2718 rfl rfl d_Mo_print_157 ?_
                refine lv_iload_n G.1 G.2.1 d_Mo_print_160 rfl (lv_at hl 1 rfl) ?_
                refine uiald G hP (kdp c_85 rfl) (typ c_85 rfl) h d_Mo_print_161 (fun x_86 h => ?_)
                refine lv_icmp_ge (tgt := 195) G.1 G.2.1 d_Mo_print_162 (by decide) (fun c162 => ?_) (fun c162 => ?_)
                · skip
                  have h := h.1 c162
                  refine lv_aload_n G.1 G.2.1 d_Mo_print_195 rfl (lv_at hl 0 rfl) ?_
                  refine lv_bipush (v := 10) G.1 G.2.1 d_Mo_print_196 (by decide) ?_
                  obtain ⟨mc_92, ms_93, hr_94, h⟩ := h
                  refine uaVv (As := [.int 10]) (rest := []) G hP hD hS (ca_Mo_put l D g ad mc_92 ms_93 y_h152 _ s_h152 a0 10 H.size (us H) h_a0 h) w9_Mo_put q4055 ⟨Nat.le_of_ble_eq_true rfl, Nat.le_of_ble_eq_true rfl⟩ rfl rfl h_a0 (q := (RMo, TMo, 131)) rfl rfl hl.1 rfl (Nat.le_of_ble_eq_true rfl) rfl hr_94 d_Mo_print_198 (fun y_89 s_88 d_90 e_91 H locs h hP hD hS => ?_)
                  have hl := lv_sub (l' := [(0, .ref (ad a0)), (2, .int x2h152)]) hl [0, 1] rfl
                  obtain ⟨hd, h⟩ := h
                  refine lv_bipush (v := 8) G.1 G.2.1 d_Mo_print_201 (by decide) ?_
                  refine W.eq (g2 := F0 m 203 ls [.int 8]) rfl ?_
                  refine lv_iload_n G.1 G.2.1 d_Mo_print_203 rfl (lv_at hl 1 rfl) ?_
                  refine lv_imul G.1 G.2.1 d_Mo_print_204 ?_
                  refine lv_istore_n (lv' := [(3, .int (8 * x2h152)), (0, .ref (ad a0)), (2, .int x2h152)]) G.1 G.2.1 d_Mo_print_205 rfl hl (by decide) rfl (fun ls hl => ?_)
                  unfold wla_Mo_print_206 at h
                  obtain ⟨I_206, μ_206, hI_206, hB_206⟩ := h
                  have L_206 : ∀ (n_206 : Nat) (y_h206 : Ly) (s_h206 : St) (d_h206 e_h206 : Nat) (x2h206 : Int32) (x3h206 : Int32), μ_206 y_h206 s_h206 d_h206 e_h206 x2h206 x3h206 < n_206 → I_206 y_h206 s_h206 d_h206 e_h206 x2h206 x3h206 → ∀ (H : Heap) (locs : List Loc), va_P D CL (ws g ad y_h206 s_h206) H → va_D A (ws g ad y_h206 s_h206) → va_S A s.heap H locs → ∀ ls, lv_has ls 4 [(0, .ref (ad a0)), (2, .int x2h206), (3, .int x3h206)] → W p l e (ra_Mo_print mc ms) s m args below meth c H locs d_h206 e_h206 Q (F0 m 206 ls []) := by
                    intro n_206
                    induction n_206 with
                    | zero => intro y_h206 s_h206 d_h206 e_h206 x2h206 x3h206 hμ; exact absurd hμ (Nat.not_lt_zero _)
                    | succ n_206 ih_206 =>
                      intro y_h206 s_h206 d_h206 e_h206 x2h206 x3h206 hμ_206 hJ H locs hP hD hS ls hl
                      obtain ⟨K_206, hK_206, h⟩ : ∃ K : Ly → St → Nat → Nat → Int32 → Int32 → Prop, (∀ z1 z2 z3 z4 (t0 : Int32) (t1 : Int32), K z1 z2 z3 z4 t0 t1 → I_206 z1 z2 z3 z4 t0 t1 ∧ μ_206 z1 z2 z3 z4 t0 t1 < μ_206 y_h206 s_h206 d_h206 e_h206 x2h206 x3h206) ∧ wba_Mo_print_206 mc ms Post K a0 y_h206 s_h206 d_h206 e_h206 x2h206 x3h206 := ⟨_, fun _ _ _ _ _ _ h => h, hB_206 y_h206 s_h206 d_h206 e_h206 x2h206 x3h206 hJ⟩
                      unfold wba_Mo_print_206 at h
                      obtain ⟨hd, h⟩ := h
                      refine lv_iload_n G.1 G.2.1 d_Mo_print_206 rfl (lv_at hl 2 rfl) ?_
                      refine lv_bipush (v := 8) G.1 G.2.1 d_Mo_print_207 (by decide) ?_
                      refine lv_iload_n G.1 G.2.1 d_Mo_print_209 rfl (lv_at hl 1 rfl) ?_
                      refine lv_imul G.1 G.2.1 d_Mo_print_210 ?_
                      refine lv_aload_n G.1 G.2.1 d_Mo_print_211 rfl (lv_at hl 0 rfl) ?_
                      obtain ⟨b_95, e_96, c_97, h⟩ := h
                      refine ugf (v := .ref (ad b_95)) G hP h_a0 iMo rfl 45 (by decide) rfl q3109 rfl (by show va_rf ((sO s_h206 a0 45).map ad) = _; rw [e_96]; rfl) d_Mo_print_212 ?_
                      refine ugfN (v := .ref (yP y_h206 b_95 8)) G hP c_97 iMw rfl 8 (by decide) rfl q2720 rfl rfl d_Mo_print_215 ?_
                      refine lv_iload_n G.1 G.2.1 d_Mo_print_218 rfl (lv_at hl 1 rfl) ?_
                      refine uiald G hP (kdp c_97 rfl) (typ c_97 rfl) h d_Mo_print_219 (fun x_98 h => ?_)
                      refine lv_iadd G.1 G.2.1 d_Mo_print_220 ?_
                      refine lv_icmp_ge (tgt := 320) G.1 G.2.1 d_Mo_print_221 (by decide) (fun c221 => ?_) (fun c221 => ?_)
                      · skip
                        have h := h.1 c221
                        refine W.eq (g2 := F0 m 320 ls []) rfl ?_
                        refine lv_bipush (v := 12) G.1 G.2.1 d_Mo_print_320 (by decide) ?_
                        refine lv_iload_n G.1 G.2.1 d_Mo_print_322 rfl (lv_at hl 1 rfl) ?_
                        refine lv_imul G.1 G.2.1 d_Mo_print_323 ?_
                        refine lv_istore_n (lv' := [(3, .int (12 * x2h206)), (0, .ref (ad a0)), (2, .int x2h206)]) G.1 G.2.1 d_Mo_print_324 rfl hl (by decide) rfl (fun ls hl => ?_)
                        unfold wla_Mo_print_325 at h
                        obtain ⟨I_325, μ_325, hI_325, hB_325⟩ := h
                        have L_325 : ∀ (n_325 : Nat) (y_h325 : Ly) (s_h325 : St) (d_h325 e_h325 : Nat) (x2h325 : Int32) (x3h325 : Int32), μ_325 y_h325 s_h325 d_h325 e_h325 x2h325 x3h325 < n_325 → I_325 y_h325 s_h325 d_h325 e_h325 x2h325 x3h325 → ∀ (H : Heap) (locs : List Loc), va_P D CL (ws g ad y_h325 s_h325) H → va_D A (ws g ad y_h325 s_h325) → va_S A s.heap H locs → ∀ ls, lv_has ls 4 [(0, .ref (ad a0)), (2, .int x2h325), (3, .int x3h325)] → W p l e (ra_Mo_print mc ms) s m args below meth c H locs d_h325 e_h325 Q (F0 m 325 ls []) := by
                          intro n_325
                          induction n_325 with
                          | zero => intro y_h325 s_h325 d_h325 e_h325 x2h325 x3h325 hμ; exact absurd hμ (Nat.not_lt_zero _)
                          | succ n_325 ih_325 =>
                            intro y_h325 s_h325 d_h325 e_h325 x2h325 x3h325 hμ_325 hJ H locs hP hD hS ls hl
                            obtain ⟨K_325, hK_325, h⟩ : ∃ K : Ly → St → Nat → Nat → Int32 → Int32 → Prop, (∀ z1 z2 z3 z4 (t0 : Int32) (t1 : Int32), K z1 z2 z3 z4 t0 t1 → I_325 z1 z2 z3 z4 t0 t1 ∧ μ_325 z1 z2 z3 z4 t0 t1 < μ_325 y_h325 s_h325 d_h325 e_h325 x2h325 x3h325) ∧ wba_Mo_print_325 mc ms Post K a0 y_h325 s_h325 d_h325 e_h325 x2h325 x3h325 := ⟨_, fun _ _ _ _ _ _ h => h, hB_325 y_h325 s_h325 d_h325 e_h325 x2h325 x3h325 hJ⟩
                            unfold wba_Mo_print_325 at h
                            obtain ⟨hd, h⟩ := h
                            refine lv_iload_n G.1 G.2.1 d_Mo_print_325 rfl (lv_at hl 2 rfl) ?_
                            refine lv_bipush (v := 12) G.1 G.2.1 d_Mo_print_326 (by decide) ?_
                            refine lv_iload_n G.1 G.2.1 d_Mo_print_328 rfl (lv_at hl 1 rfl) ?_
                            refine lv_imul G.1 G.2.1 d_Mo_print_329 ?_
                            refine lv_aload_n G.1 G.2.1 d_Mo_print_330 rfl (lv_at hl 0 rfl) ?_
                            obtain ⟨b_99, e_100, c_101, h⟩ := h
                            refine ugf (v := .ref (ad b_99)) G hP h_a0 iMo rfl 45 (by decide) rfl q3109 rfl (by show va_rf ((sO s_h325 a0 45).map ad) = _; rw [e_100]; rfl) d_Mo_print_331 ?_
                            refine ugfN (v := .ref (yP y_h325 b_99 9)) G hP c_101 iMw rfl 9 (by decide) rfl q2722 rfl rfl d_Mo_print_334 ?_
                            refine lv_iload_n G.1 G.2.1 d_Mo_print_337 rfl (lv_at hl 1 rfl) ?_
                            refine uiald G hP (kdp c_101 rfl) (typ c_101 rfl) h d_Mo_print_338 (fun x_102 h => ?_)
                            refine lv_iadd G.1 G.2.1 d_Mo_print_339 ?_
                            refine lv_icmp_ge (tgt := 354) G.1 G.2.1 d_Mo_print_340 (by decide) (fun c340 => ?_) (fun c340 => ?_)
                            · skip
                              have h := h.1 c340
                              refine W.eq (g2 := F0 m 354 ls []) rfl ?_
                              refine lv_aload_n G.1 G.2.1 d_Mo_print_354 rfl (lv_at hl 0 rfl) ?_
                              refine uldc (n := 29) hF rfl G d_Mo_print_355 ?_
                              obtain ⟨mc_108, ms_109, hr_110, h⟩ := h
                              refine utVv (As := [.ref (sk (F 29))]) (rest := []) G hP hD hS (ca_Mo_putWord l D g F sl hF ad mc_108 ms_109 y_h325 _ s_h325 a0 29 H.size (us H) h_a0 (by decide +kernel) h) w9_Mo_putWord q4051 ⟨Nat.le_of_ble_eq_true rfl, Nat.le_of_ble_eq_true rfl⟩ rfl rfl h_a0 (q := (RMo, TMo, 131)) rfl rfl hl.1 rfl (Nat.le_of_ble_eq_true rfl) rfl hr_110 d_Mo_print_357 (fun y_105 s_104 d_106 e_107 H locs h hP hD hS => ?_)
                              have hl := lv_sub (l' := [(0, .ref (ad a0))]) hl [0] rfl
                              obtain ⟨hd, h⟩ := h
                              refine lv_aload_n G.1 G.2.1 d_Mo_print_360 rfl (lv_at hl 0 rfl) ?_
                              refine lv_bipush (v := 10) G.1 G.2.1 d_Mo_print_361 (by decide) ?_
                              obtain ⟨mc_116, ms_117, hr_118, h⟩ := h
                              refine uaVv (As := [.int 10]) (rest := []) G hP hD hS (ca_Mo_put l D g ad mc_116 ms_117 y_105 _ s_104 a0 10 H.size (us H) h_a0 h) w9_Mo_put q4055 ⟨Nat.le_of_ble_eq_true rfl, Nat.le_of_ble_eq_true rfl⟩ rfl rfl h_a0 (q := (RMo, TMo, 131)) rfl rfl hl.1 rfl (Nat.le_of_ble_eq_true rfl) rfl hr_118 d_Mo_print_363 (fun y_113 s_112 d_114 e_115 H locs h hP hD hS => ?_)
                              obtain ⟨hd, h⟩ := h
                              refine lv_aload_n G.1 G.2.1 d_Mo_print_366 rfl (lv_at hl 0 rfl) ?_
                              refine ugf (v := .int (sV s_112 a0 95)) G hP h_a0 iMo rfl 95 (by decide) rfl q3159 rfl rfl d_Mo_print_367 ?_
                              exact hret _ (y_113, s_112, d_h325 + d_106 + d_114, e_h325 + e_107 + e_115) _ _ _ _ _ ls h hP hD hS (Nat.le_refl _) (Nat.le_refl _) hd.1 hd.2 d_Mo_print_370
                            · skip
                              have h := h.2 c340
                              refine W.eq (g2 := F0 m 343 ls []) rfl ?_
                              refine lv_aload_n G.1 G.2.1 d_Mo_print_343 rfl (lv_at hl 0 rfl) ?_
                              refine lv_iload_n G.1 G.2.1 d_Mo_print_344 rfl (lv_at hl 2 rfl) ?_
                              obtain ⟨mc_124, ms_125, hr_126, h⟩ := h
                              refine utVv (As := [.int x3h325]) (rest := []) G hP hD hS (ca_Mo_putMethod l D g F sl hF ad mc_124 ms_125 y_h325 _ s_h325 a0 x3h325 H.size (us H) h_a0 h) w9_Mo_putMethod q4085 ⟨Nat.le_of_ble_eq_true rfl, Nat.le_of_ble_eq_true rfl⟩ rfl rfl h_a0 (q := (RMo, TMo, 131)) rfl rfl hl.1 rfl (Nat.le_of_ble_eq_true rfl) rfl hr_126 d_Mo_print_345 (fun y_121 s_120 d_122 e_123 H locs h hP hD hS => ?_)
                              obtain ⟨hd, h⟩ := h
                              refine lv_iinc (v := x3h325 + 1) (lv' := [(3, .int (x3h325 + 1)), (0, .ref (ad a0)), (2, .int x2h325)]) G.1 G.2.1 d_Mo_print_348 hl (k := 2) rfl rfl (by decide) rfl (fun ls hl => ?_)
                              refine lv_goto (tgt := 325) G.1 G.2.1 d_Mo_print_351 (by decide) ?_
                              have h := hK_325 y_121 s_120 (d_h325 + d_122) (e_h325 + e_123) x2h325 (x3h325 + 1) h
                              exact ih_325 y_121 s_120 (d_h325 + d_122) (e_h325 + e_123) x2h325 (x3h325 + 1) (Nat.lt_of_lt_of_le h.2 (Nat.le_of_lt_succ hμ_325)) h.1 H locs hP hD hS ls (lv_sub hl [1, 2, 0] rfl)
                        exact L_325 _ y_h206 s_h206 d_h206 e_h206 x2h206 (12 * x2h206) (Nat.lt_succ_self _) hI_325 H locs hP hD hS ls (lv_sub hl [1, 2, 0] rfl)
                      · skip
                        have h := h.2 c221
                        refine W.eq (g2 := F0 m 224 ls []) rfl ?_
                        refine lv_aload_n G.1 G.2.1 d_Mo_print_224 rfl (lv_at hl 0 rfl) ?_
                        refine uldcw (n := 44) hF rfl G d_Mo_print_225 ?_
                        obtain ⟨mc_132, ms_133, hr_134, h⟩ := h
                        refine utVv (As := [.ref (sk (F 44))]) (rest := []) G hP hD hS (ca_Mo_putWord l D g F sl hF ad mc_132 ms_133 y_h206 _ s_h206 a0 44 H.size (us H) h_a0 (by decide +kernel) h) w9_Mo_putWord q4051 ⟨Nat.le_of_ble_eq_true rfl, Nat.le_of_ble_eq_true rfl⟩ rfl rfl h_a0 (q := (RMo, TMo, 131)) rfl rfl hl.1 rfl (Nat.le_of_ble_eq_true rfl) rfl hr_134 d_Mo_print_228 (fun y_129 s_128 d_130 e_131 H locs h hP hD hS => ?_)
                        obtain ⟨hd, h⟩ := h
                        refine lv_aload_n G.1 G.2.1 d_Mo_print_231 rfl (lv_at hl 0 rfl) ?_
                        refine lv_aload_n G.1 G.2.1 d_Mo_print_232 rfl (lv_at hl 0 rfl) ?_
                        obtain ⟨b_135, e_136, c_137, h⟩ := h
                        refine ugf (v := .ref (ad b_135)) G hP h_a0 iMo rfl 45 (by decide) rfl q3109 rfl (by show va_rf ((sO s_128 a0 45).map ad) = _; rw [e_136]; rfl) d_Mo_print_233 ?_
                        refine ugfN (v := .ref (yP y_129 b_135 14)) G hP c_137 iMw rfl 14 (by decide) rfl q2732 rfl rfl d_Mo_print_236 ?_
                        refine lv_iload_n G.1 G.2.1 d_Mo_print_239 rfl (lv_at hl 2 rfl) ?_
                        refine uiald G hP (kdp c_137 rfl) (typ c_137 rfl) h d_Mo_print_240 (fun x_138 h => ?_)
                        obtain ⟨mc_144, ms_145, hr_146, h⟩ := h
                        refine utVv (As := [.int x_138]) (rest := []) G hP hD hS (ca_Mo_putFlags l D g F sl hF ad mc_144 ms_145 y_129 _ s_128 a0 x_138 H.size (us H) h_a0 h) w9_Mo_putFlags q4069 ⟨Nat.le_of_ble_eq_true rfl, Nat.le_of_ble_eq_true rfl⟩ rfl rfl h_a0 (q := (RMo, TMo, 131)) rfl rfl hl.1 rfl (Nat.le_of_ble_eq_true rfl) rfl hr_146 d_Mo_print_241 (fun y_141 s_140 d_142 e_143 H locs h hP hD hS => ?_)
                        obtain ⟨hd, h⟩ := h
                        refine lv_aload_n G.1 G.2.1 d_Mo_print_244 rfl (lv_at hl 0 rfl) ?_
                        refine lv_aload_n G.1 G.2.1 d_Mo_print_245 rfl (lv_at hl 0 rfl) ?_
                        refine W.eq (g2 := F0 m 246 ls [.ref (ad a0), .ref (ad a0)]) rfl ?_
                        obtain ⟨b_147, e_148, c_149, h⟩ := h
                        refine ugf (v := .ref (ad b_147)) G hP h_a0 iMo rfl 45 (by decide) rfl q3109 rfl (by show va_rf ((sO s_140 a0 45).map ad) = _; rw [e_148]; rfl) d_Mo_print_246 ?_
                        refine ugfN (v := .ref (yP y_141 b_147 12)) G hP c_149 iMw rfl 12 (by decide) rfl q2728 rfl rfl d_Mo_print_249 ?_
                        refine lv_iload_n G.1 G.2.1 d_Mo_print_252 rfl (lv_at hl 2 rfl) ?_
                        refine uiald G hP (kdp c_149 rfl) (typ c_149 rfl) h d_Mo_print_253 (fun x_150 h => ?_)
                        obtain ⟨mc_156, ms_157, hr_158, h⟩ := h
                        refine uaVv (As := [.int x_150]) (rest := []) G hP hD hS (ca_Mo_putName l D g ad mc_156 ms_157 y_141 _ s_140 a0 x_150 H.size (us H) h_a0 h) w9_Mo_putName q4062 ⟨Nat.le_of_ble_eq_true rfl, Nat.le_of_ble_eq_true rfl⟩ rfl rfl h_a0 (q := (RMo, TMo, 131)) rfl rfl hl.1 rfl (Nat.le_of_ble_eq_true rfl) rfl hr_158 d_Mo_print_254 (fun y_153 s_152 d_154 e_155 H locs h hP hD hS => ?_)
                        obtain ⟨hd, h⟩ := h
                        refine lv_aload_n G.1 G.2.1 d_Mo_print_257 rfl (lv_at hl 0 rfl) ?_
                        refine lv_bipush (v := 32) G.1 G.2.1 d_Mo_print_258 (by decide) ?_
                        obtain ⟨mc_164, ms_165, hr_166, h⟩ := h
                        refine uaVv (As := [.int 32]) (rest := []) G hP hD hS (ca_Mo_put l D g ad mc_164 ms_165 y_153 _ s_152 a0 32 H.size (us H) h_a0 h) w9_Mo_put q4055 ⟨Nat.le_of_ble_eq_true rfl, Nat.le_of_ble_eq_true rfl⟩ rfl rfl h_a0 (q := (RMo, TMo, 131)) rfl rfl hl.1 rfl (Nat.le_of_ble_eq_true rfl) rfl hr_166 d_Mo_print_260 (fun y_161 s_160 d_162 e_163 H locs h hP hD hS => ?_)
                        obtain ⟨hd, h⟩ := h
                        refine lv_aload_n G.1 G.2.1 d_Mo_print_263 rfl (lv_at hl 0 rfl) ?_
                        refine lv_aload_n G.1 G.2.1 d_Mo_print_264 rfl (lv_at hl 0 rfl) ?_
                        obtain ⟨b_167, e_168, c_169, h⟩ := h
                        refine ugf (v := .ref (ad b_167)) G hP h_a0 iMo rfl 45 (by decide) rfl q3109 rfl (by show va_rf ((sO s_160 a0 45).map ad) = _; rw [e_168]; rfl) d_Mo_print_265 ?_
                        refine ugfN (v := .ref (yP y_161 b_167 13)) G hP c_169 iMw rfl 13 (by decide) rfl q2730 rfl rfl d_Mo_print_268 ?_
                        refine W.eq (g2 := F0 m 271 ls [.ref (yP y_161 b_167 13), .ref (ad a0)]) rfl ?_
                        refine lv_iload_n G.1 G.2.1 d_Mo_print_271 rfl (lv_at hl 2 rfl) ?_
                        refine uiald G hP (kdp c_169 rfl) (typ c_169 rfl) h d_Mo_print_272 (fun x_170 h => ?_)
                        obtain ⟨mc_176, ms_177, hr_178, h⟩ := h
                        refine utVv (As := [.int x_170]) (rest := []) G hP hD hS (ca_Mo_putType l D g F sl hF ad mc_176 ms_177 y_161 _ s_160 a0 x_170 H.size (us H) h_a0 h) w9_Mo_putType q4075 ⟨Nat.le_of_ble_eq_true rfl, Nat.le_of_ble_eq_true rfl⟩ rfl rfl h_a0 (q := (RMo, TMo, 131)) rfl rfl hl.1 rfl (Nat.le_of_ble_eq_true rfl) rfl hr_178 d_Mo_print_273 (fun y_173 s_172 d_174 e_175 H locs h hP hD hS => ?_)
                        obtain ⟨hd, h⟩ := h
                        refine lv_aload_n G.1 G.2.1 d_Mo_print_276 rfl (lv_at hl 0 rfl) ?_
                        obtain ⟨b_179, e_180, c_181, h⟩ := h
                        refine ugf (v := .ref (ad b_179)) G hP h_a0 iMo rfl 45 (by decide) rfl q3109 rfl (by show va_rf ((sO s_172 a0 45).map ad) = _; rw [e_180]; rfl) d_Mo_print_277 ?_
                        refine ugfN (v := .ref (yP y_173 b_179 16)) G hP c_181 iMw rfl 16 (by decide) rfl q2736 rfl rfl d_Mo_print_280 ?_
                        refine lv_iload_n G.1 G.2.1 d_Mo_print_283 rfl (lv_at hl 2 rfl) ?_
                        refine uzald G hP (kdp c_181 rfl) (typ c_181 rfl) h d_Mo_print_284 (fun x_182 h => ?_)
                        have J_308 : ∀ (y_j308 : Ly) (s_j308 : St) (d_j308 e_j308 : Nat) (x2j308 : Int32) (x3j308 : Int32) (H : Heap) (locs : List Loc), wja_Mo_print_308 mc ms Post K_206 a0 y_j308 s_j308 d_j308 e_j308 x2j308 x3j308 → va_P D CL (ws g ad y_j308 s_j308) H → va_D A (ws g ad y_j308 s_j308) → va_S A s.heap H locs → ∀ ls, lv_has ls 4 [(0, .ref (ad a0)), (2, .int x2j308), (3, .int x3j308)] → W p l e (ra_Mo_print mc ms) s m args below meth c H locs d_j308 e_j308 Q (F0 m 308 ls []) := by
                          intro y_j308 s_j308 d_j308 e_j308 x2j308 x3j308 H locs h hP hD hS ls hl
                          unfold wja_Mo_print_308 at h
                          obtain ⟨hd, h⟩ := h
                          refine lv_aload_n G.1 G.2.1 d_Mo_print_308 rfl (lv_at hl 0 rfl) ?_
                          refine lv_bipush (v := 10) G.1 G.2.1 d_Mo_print_309 (by decide) ?_
                          obtain ⟨mc_188, ms_189, hr_190, h⟩ := h
                          refine uaVv (As := [.int 10]) (rest := []) G hP hD hS (ca_Mo_put l D g ad mc_188 ms_189 y_j308 _ s_j308 a0 10 H.size (us H) h_a0 h) w9_Mo_put q4055 ⟨Nat.le_of_ble_eq_true rfl, Nat.le_of_ble_eq_true rfl⟩ rfl rfl h_a0 (q := (RMo, TMo, 131)) rfl rfl hl.1 rfl (Nat.le_of_ble_eq_true rfl) rfl hr_190 d_Mo_print_311 (fun y_185 s_184 d_186 e_187 H locs h hP hD hS => ?_)
                          obtain ⟨hd, h⟩ := h
                          refine lv_iinc (v := x3j308 + 1) (lv' := [(3, .int (x3j308 + 1)), (0, .ref (ad a0)), (2, .int x2j308)]) G.1 G.2.1 d_Mo_print_314 hl (k := 2) rfl rfl (by decide) rfl (fun ls hl => ?_)
                          refine lv_goto (tgt := 206) G.1 G.2.1 d_Mo_print_317 (by decide) ?_
                          have h := hK_206 y_185 s_184 (d_j308 + d_186) (e_j308 + e_187) x2j308 (x3j308 + 1) h
                          exact ih_206 y_185 s_184 (d_j308 + d_186) (e_j308 + e_187) x2j308 (x3j308 + 1) (Nat.lt_of_lt_of_le h.2 (Nat.le_of_lt_succ hμ_206)) h.1 H locs hP hD hS ls (lv_sub hl [1, 2, 0] rfl)
                        refine lv_if_eq (tgt := 308) G.1 G.2.1 d_Mo_print_285 (by decide) (fun c285 => ?_) (fun c285 => ?_)
                        · skip
                          have h := h.1 c285
                          exact J_308 y_173 s_172 (d_h206 + d_130 + d_142 + d_154 + d_162 + d_174) (e_h206 + e_131 + e_143 + e_155 + e_163 + e_175) x2h206 x3h206 H locs h hP hD hS ls (lv_sub hl [0, 1, 2] rfl)
                        · skip
                          have h := h.2 c285
                          refine lv_aload_n G.1 G.2.1 d_Mo_print_288 rfl (lv_at hl 0 rfl) ?_
                          refine uldcw (n := 48) hF rfl G d_Mo_print_289 ?_
                          obtain ⟨mc_196, ms_197, hr_198, h⟩ := h
                          refine utVv (As := [.ref (sk (F 48))]) (rest := []) G hP hD hS (ca_Mo_putWord l D g F sl hF ad mc_196 ms_197 y_173 _ s_172 a0 48 H.size (us H) h_a0 (by decide +kernel) h) w9_Mo_putWord q4051 ⟨Nat.le_of_ble_eq_true rfl, Nat.le_of_ble_eq_true rfl⟩ rfl rfl h_a0 (q := (RMo, TMo, 131)) rfl rfl hl.1 rfl (Nat.le_of_ble_eq_true rfl) rfl hr_198 d_Mo_print_292 (fun y_193 s_192 d_194 e_195 H locs h hP hD hS => ?_)
                          obtain ⟨hd, h⟩ := h
                          refine W.eq (g2 := F0 m 295 ls []) rfl ?_
                          refine lv_aload_n G.1 G.2.1 d_Mo_print_295 rfl (lv_at hl 0 rfl) ?_
                          refine lv_aload_n G.1 G.2.1 d_Mo_print_296 rfl (lv_at hl 0 rfl) ?_
                          obtain ⟨b_199, e_200, c_201, h⟩ := h
                          refine ugf (v := .ref (ad b_199)) G hP h_a0 iMo rfl 45 (by decide) rfl q3109 rfl (by show va_rf ((sO s_192 a0 45).map ad) = _; rw [e_200]; rfl) d_Mo_print_297 ?_
                          refine ugfN (v := .ref (yP y_193 b_199 15)) G hP c_201 iMw rfl 15 (by decide) rfl q2734 rfl rfl d_Mo_print_300 ?_
                          refine lv_iload_n G.1 G.2.1 d_Mo_print_303 rfl (lv_at hl 2 rfl) ?_
                          refine uiald G hP (kdp c_201 rfl) (typ c_201 rfl) h d_Mo_print_304 (fun x_202 h => ?_)
                          obtain ⟨mc_208, ms_209, hr_210, h⟩ := h
                          refine uaVv (As := [.int x_202]) (rest := []) G hP hD hS (ca_Mo_putNumber l D g ad mc_208 ms_209 y_193 _ s_192 a0 x_202 H.size (us H) h_a0 h) w9_Mo_putNumber q4081 ⟨Nat.le_of_ble_eq_true rfl, Nat.le_of_ble_eq_true rfl⟩ rfl rfl h_a0 (q := (RMo, TMo, 131)) rfl rfl hl.1 rfl (Nat.le_of_ble_eq_true rfl) rfl hr_210 d_Mo_print_305 (fun y_205 s_204 d_206 e_207 H locs h hP hD hS => ?_)
                          obtain ⟨hd, h⟩ := h
                          exact J_308 y_205 s_204 (d_h206 + d_130 + d_142 + d_154 + d_162 + d_174 + d_194 + d_206) (e_h206 + e_131 + e_143 + e_155 + e_163 + e_175 + e_195 + e_207) x2h206 x3h206 H locs h hP hD hS ls (lv_sub hl [0, 1, 2] rfl)
                  exact L_206 _ y_89 s_88 (d_h152 + d_90) (e_h152 + e_91) x2h152 (8 * x2h152) (Nat.lt_succ_self _) hI_206 H locs hP hD hS ls (lv_sub hl [1, 2, 0] rfl)
                · skip
                  have h := h.2 c162
                  refine lv_aload_n G.1 G.2.1 d_Mo_print_165 rfl (lv_at hl 0 rfl) ?_
                  refine uldcw (n := 43) hF rfl G d_Mo_print_166 ?_
                  obtain ⟨mc_216, ms_217, hr_218, h⟩ := h
                  refine utVv (As := [.ref (sk (F 43))]) (rest := []) G hP hD hS (ca_Mo_putWord l D g F sl hF ad mc_216 ms_217 y_h152 _ s_h152 a0 43 H.size (us H) h_a0 (by decide +kernel) h) w9_Mo_putWord q4051 ⟨Nat.le_of_ble_eq_true rfl, Nat.le_of_ble_eq_true rfl⟩ rfl rfl h_a0 (q := (RMo, TMo, 131)) rfl rfl hl.1 rfl (Nat.le_of_ble_eq_true rfl) rfl hr_218 d_Mo_print_169 (fun y_213 s_212 d_214 e_215 H locs h hP hD hS => ?_)
                  obtain ⟨hd, h⟩ := h
                  refine lv_aload_n G.1 G.2.1 d_Mo_print_172 rfl (lv_at hl 0 rfl) ?_
                  refine W.eq (g2 := F0 m 173 ls [.ref (ad a0)]) rfl ?_
                  refine lv_aload_n G.1 G.2.1 d_Mo_print_173 rfl (lv_at hl 0 rfl) ?_
                  obtain ⟨b_219, e_220, c_221, h⟩ := h
                  refine ugf (v := .ref (ad b_219)) G hP h_a0 iMo rfl 45 (by decide) rfl q3109 rfl (by show va_rf ((sO s_212 a0 45).map ad) = _; rw [e_220]; rfl) d_Mo_print_174 ?_
                  refine ugfN (v := .ref (yP y_213 b_219 6)) G hP c_221 iMw rfl 6 (by decide) rfl q2716 rfl rfl d_Mo_print_177 ?_
                  refine lv_iconst (v := 4) G.1 G.2.1 d_Mo_print_180 (by decide) ?_
                  refine lv_iload_n G.1 G.2.1 d_Mo_print_181 rfl (lv_at hl 1 rfl) ?_
                  refine lv_imul G.1 G.2.1 d_Mo_print_182 ?_
                  refine lv_iload_n G.1 G.2.1 d_Mo_print_183 rfl (lv_at hl 2 rfl) ?_
                  refine lv_iadd G.1 G.2.1 d_Mo_print_184 ?_
                  refine uiald G hP (kdp c_221 rfl) (typ c_221 rfl) h d_Mo_print_185 (fun x_222 h => ?_)
                  obtain ⟨mc_228, ms_229, hr_230, h⟩ := h
                  refine uaVv (As := [.int x_222]) (rest := []) G hP hD hS (ca_Mo_putName l D g ad mc_228 ms_229 y_213 _ s_212 a0 x_222 H.size (us H) h_a0 h) w9_Mo_putName q4062 ⟨Nat.le_of_ble_eq_true rfl, Nat.le_of_ble_eq_true rfl⟩ rfl rfl h_a0 (q := (RMo, TMo, 131)) rfl rfl hl.1 rfl (Nat.le_of_ble_eq_true rfl) rfl hr_230 d_Mo_print_186 (fun y_225 s_224 d_226 e_227 H locs h hP hD hS => ?_)
                  obtain ⟨hd, h⟩ := h
                  refine lv_iinc (v := x3h152 + 1) (lv' := [(3, .int (x3h152 + 1)), (0, .ref (ad a0)), (2, .int x2h152)]) G.1 G.2.1 d_Mo_print_189 hl (k := 2) rfl rfl (by decide) rfl (fun ls hl => ?_)
                  refine lv_goto (tgt := 152) G.1 G.2.1 d_Mo_print_192 (by decide) ?_
                  have h := hK_152 y_225 s_224 (d_h152 + d_214 + d_226) (e_h152 + e_215 + e_227) x2h152 (x3h152 + 1) h
                  exact ih_152 y_225 s_224 (d_h152 + d_214 + d_226) (e_h152 + e_215 + e_227) x2h152 (x3h152 + 1) (Nat.lt_of_lt_of_le h.2 (Nat.le_of_lt_succ hμ_152)) h.1 H locs hP hD hS ls (lv_sub hl [1, 2, 0] rfl)
            exact L_152 _ y_77 s_76 (d_j104 + d_38 + d_46 + d_58 + d_66 + d_78) (e_j104 + e_39 + e_47 + e_59 + e_67 + e_79) x2j104 0 (Nat.lt_succ_self _) hI_152 H locs hP hD hS ls (lv_sub hl [1, 2, 0] rfl)
          refine lv_if_eq (tgt := 103) G.1 G.2.1 d_Mo_print_96 (by decide) (fun c96 => ?_) (fun c96 => ?_)
          · skip
            have h := h.1 c96
            refine W.eq (g2 := F0 m 103 ls [.ref (ad a0)]) rfl ?_
            refine lv_iconst (v := 0) G.1 G.2.1 d_Mo_print_103 (by decide) ?_
            exact J_104 y_25 s_24 (d_j78 + d_26) (e_j78 + e_27) x2j78 0 H locs h hP hD hS ls (lv_sub hl [0, 1] rfl)
          · skip
            have h := h.2 c96
            refine W.eq (g2 := F0 m 99 ls [.ref (ad a0)]) rfl ?_
            refine lv_iconst (v := 1) G.1 G.2.1 d_Mo_print_99 (by decide) ?_
            refine lv_goto (tgt := 104) G.1 G.2.1 d_Mo_print_100 (by decide) ?_
            exact J_104 y_25 s_24 (d_j78 + d_26) (e_j78 + e_27) x2j78 1 H locs h hP hD hS ls (lv_sub hl [0, 1] rfl)
        refine lv_if_eq (tgt := 77) G.1 G.2.1 d_Mo_print_70 (by decide) (fun c70 => ?_) (fun c70 => ?_)
        · skip
          have h := h.1 c70
          refine W.eq (g2 := F0 m 77 ls [.ref (ad a0)]) rfl ?_
          refine lv_iconst (v := 0) G.1 G.2.1 d_Mo_print_77 (by decide) ?_
          exact J_78 y_13 s_12 (d_j52 + d_14) (e_j52 + e_15) x2j52 0 H locs h hP hD hS ls (lv_sub hl [0, 1] rfl)
        · skip
          have h := h.2 c70
          refine W.eq (g2 := F0 m 73 ls [.ref (ad a0)]) rfl ?_
          refine lv_iconst (v := 1) G.1 G.2.1 d_Mo_print_73 (by decide) ?_
          refine lv_goto (tgt := 78) G.1 G.2.1 d_Mo_print_74 (by decide) ?_
          exact J_78 y_13 s_12 (d_j52 + d_14) (e_j52 + e_15) x2j52 1 H locs h hP hD hS ls (lv_sub hl [0, 1] rfl)
      refine lv_if_eq (tgt := 51) G.1 G.2.1 d_Mo_print_44 (by decide) (fun c44 => ?_) (fun c44 => ?_)
      · skip
        have h := h.1 c44
        refine lv_iconst (v := 0) G.1 G.2.1 d_Mo_print_51 (by decide) ?_
        exact J_52 y s_6 0 0 v2 0 H locs h hP hD hS ls (lv_sub hl [0, 2] rfl)
      · skip
        have h := h.2 c44
        refine lv_iconst (v := 1) G.1 G.2.1 d_Mo_print_47 (by decide) ?_
        refine lv_goto (tgt := 52) G.1 G.2.1 d_Mo_print_48 (by decide) ?_
        exact J_52 y s_6 0 0 v2 1 H locs h hP hD hS ls (lv_sub hl [0, 2] rfl)
    · skip
      have h := h.2 c12
      exact J_15 y s_2 0 0 H locs h hP hD hS ls (lv_sub hl [] rfl)
def y_Mo_foretold : MethodName := ⟨"ClassWorksModel", "foretold", "(II)I"⟩
abbrev b_Mo_foretold : ByteArray := prog_14_method_179_code
theorem d_Mo_foretold_0 : decode b_Mo_foretold 0 = .ok (.aload_n 0, 1) := by decide +kernel
theorem d_Mo_foretold_1 : decode b_Mo_foretold 1 = .ok (.getfield 522, 3) := by decide +kernel
theorem d_Mo_foretold_4 : decode b_Mo_foretold 4 = .ok (.getfield 674, 3) := by decide +kernel
theorem d_Mo_foretold_7 : decode b_Mo_foretold 7 = .ok (.iload_n 2, 1) := by decide +kernel
theorem d_Mo_foretold_8 : decode b_Mo_foretold 8 = .ok (.baload, 1) := by decide +kernel
theorem d_Mo_foretold_9 : decode b_Mo_foretold 9 = .ok (.istore_n 3, 1) := by decide +kernel
theorem d_Mo_foretold_10 : decode b_Mo_foretold 10 = .ok (.iload_n 3, 1) := by decide +kernel
theorem d_Mo_foretold_11 : decode b_Mo_foretold 11 = .ok (.bipush 46, 2) := by decide +kernel
theorem d_Mo_foretold_13 : decode b_Mo_foretold 13 = .ok (.if_icmp .lt 28, 3) := by decide +kernel
theorem d_Mo_foretold_16 : decode b_Mo_foretold 16 = .ok (.iload_n 3, 1) := by decide +kernel
theorem d_Mo_foretold_17 : decode b_Mo_foretold 17 = .ok (.bipush 49, 2) := by decide +kernel
theorem d_Mo_foretold_19 : decode b_Mo_foretold 19 = .ok (.if_icmp .gt 22, 3) := by decide +kernel
theorem d_Mo_foretold_22 : decode b_Mo_foretold 22 = .ok (.aload_n 0, 1) := by decide +kernel
theorem d_Mo_foretold_23 : decode b_Mo_foretold 23 = .ok (.iload_n 3, 1) := by decide +kernel
theorem d_Mo_foretold_24 : decode b_Mo_foretold 24 = .ok (.iload_n 2, 1) := by decide +kernel
theorem d_Mo_foretold_25 : decode b_Mo_foretold 25 = .ok (.iload_n 1, 1) := by decide +kernel
theorem d_Mo_foretold_26 : decode b_Mo_foretold 26 = .ok (.invokevirtual 1078, 3) := by decide +kernel
theorem d_Mo_foretold_29 : decode b_Mo_foretold 29 = .ok (.ifCond .ge 10, 3) := by decide +kernel
theorem d_Mo_foretold_32 : decode b_Mo_foretold 32 = .ok (.aload_n 0, 1) := by decide +kernel
theorem d_Mo_foretold_33 : decode b_Mo_foretold 33 = .ok (.getfield 844, 3) := by decide +kernel
theorem d_Mo_foretold_36 : decode b_Mo_foretold 36 = .ok (.goto 4, 3) := by decide +kernel
theorem d_Mo_foretold_39 : decode b_Mo_foretold 39 = .ok (.iconst 0, 1) := by decide +kernel
theorem d_Mo_foretold_40 : decode b_Mo_foretold 40 = .ok (.ireturn, 1) := by decide +kernel
theorem d_Mo_foretold_41 : decode b_Mo_foretold 41 = .ok (.iload_n 3, 1) := by decide +kernel
theorem d_Mo_foretold_42 : decode b_Mo_foretold 42 = .ok (.bipush 50, 2) := by decide +kernel
theorem d_Mo_foretold_44 : decode b_Mo_foretold 44 = .ok (.if_icmp .lt 57, 3) := by decide +kernel
theorem d_Mo_foretold_47 : decode b_Mo_foretold 47 = .ok (.iload_n 3, 1) := by decide +kernel
theorem d_Mo_foretold_48 : decode b_Mo_foretold 48 = .ok (.bipush 53, 2) := by decide +kernel
theorem d_Mo_foretold_50 : decode b_Mo_foretold 50 = .ok (.if_icmp .gt 51, 3) := by decide +kernel
theorem d_Mo_foretold_53 : decode b_Mo_foretold 53 = .ok (.aload_n 0, 1) := by decide +kernel
theorem d_Mo_foretold_54 : decode b_Mo_foretold 54 = .ok (.iload_n 3, 1) := by decide +kernel
theorem d_Mo_foretold_55 : decode b_Mo_foretold 55 = .ok (.aload_n 0, 1) := by decide +kernel
theorem d_Mo_foretold_56 : decode b_Mo_foretold 56 = .ok (.getfield 522, 3) := by decide +kernel
theorem d_Mo_foretold_59 : decode b_Mo_foretold 59 = .ok (.getfield 677, 3) := by decide +kernel
theorem d_Mo_foretold_62 : decode b_Mo_foretold 62 = .ok (.iload_n 2, 1) := by decide +kernel
theorem d_Mo_foretold_63 : decode b_Mo_foretold 63 = .ok (.iaload, 1) := by decide +kernel
theorem d_Mo_foretold_64 : decode b_Mo_foretold 64 = .ok (.aload_n 0, 1) := by decide +kernel
theorem d_Mo_foretold_65 : decode b_Mo_foretold 65 = .ok (.getfield 522, 3) := by decide +kernel
theorem d_Mo_foretold_68 : decode b_Mo_foretold 68 = .ok (.getfield 680, 3) := by decide +kernel
theorem d_Mo_foretold_71 : decode b_Mo_foretold 71 = .ok (.iload_n 2, 1) := by decide +kernel
theorem d_Mo_foretold_72 : decode b_Mo_foretold 72 = .ok (.iaload, 1) := by decide +kernel
theorem d_Mo_foretold_73 : decode b_Mo_foretold 73 = .ok (.aload_n 0, 1) := by decide +kernel
theorem d_Mo_foretold_74 : decode b_Mo_foretold 74 = .ok (.getfield 522, 3) := by decide +kernel
theorem d_Mo_foretold_77 : decode b_Mo_foretold 77 = .ok (.getfield 683, 3) := by decide +kernel
theorem d_Mo_foretold_80 : decode b_Mo_foretold 80 = .ok (.iload_n 2, 1) := by decide +kernel
theorem d_Mo_foretold_81 : decode b_Mo_foretold 81 = .ok (.iaload, 1) := by decide +kernel
theorem d_Mo_foretold_82 : decode b_Mo_foretold 82 = .ok (.iload_n 1, 1) := by decide +kernel
theorem d_Mo_foretold_83 : decode b_Mo_foretold 83 = .ok (.bipush 12, 2) := by decide +kernel
theorem d_Mo_foretold_85 : decode b_Mo_foretold 85 = .ok (.idiv, 1) := by decide +kernel
theorem d_Mo_foretold_86 : decode b_Mo_foretold 86 = .ok (.invokevirtual 1019, 3) := by decide +kernel
theorem d_Mo_foretold_89 : decode b_Mo_foretold 89 = .ok (.ifCond .ge 10, 3) := by decide +kernel
theorem d_Mo_foretold_92 : decode b_Mo_foretold 92 = .ok (.aload_n 0, 1) := by decide +kernel
theorem d_Mo_foretold_93 : decode b_Mo_foretold 93 = .ok (.getfield 844, 3) := by decide +kernel
theorem d_Mo_foretold_96 : decode b_Mo_foretold 96 = .ok (.goto 4, 3) := by decide +kernel
theorem d_Mo_foretold_99 : decode b_Mo_foretold 99 = .ok (.iconst 0, 1) := by decide +kernel
theorem d_Mo_foretold_100 : decode b_Mo_foretold 100 = .ok (.ireturn, 1) := by decide +kernel
theorem d_Mo_foretold_101 : decode b_Mo_foretold 101 = .ok (.iload_n 3, 1) := by decide +kernel
theorem d_Mo_foretold_102 : decode b_Mo_foretold 102 = .ok (.bipush 54, 2) := by decide +kernel
theorem d_Mo_foretold_104 : decode b_Mo_foretold 104 = .ok (.if_icmp .eq 9, 3) := by decide +kernel
theorem d_Mo_foretold_107 : decode b_Mo_foretold 107 = .ok (.iload_n 3, 1) := by decide +kernel
theorem d_Mo_foretold_108 : decode b_Mo_foretold 108 = .ok (.bipush 55, 2) := by decide +kernel
theorem d_Mo_foretold_110 : decode b_Mo_foretold 110 = .ok (.if_icmp .ne 26, 3) := by decide +kernel
theorem d_Mo_foretold_113 : decode b_Mo_foretold 113 = .ok (.aload_n 0, 1) := by decide +kernel
theorem d_Mo_foretold_114 : decode b_Mo_foretold 114 = .ok (.aload_n 0, 1) := by decide +kernel
theorem d_Mo_foretold_115 : decode b_Mo_foretold 115 = .ok (.getfield 522, 3) := by decide +kernel
theorem d_Mo_foretold_118 : decode b_Mo_foretold 118 = .ok (.getfield 677, 3) := by decide +kernel
theorem d_Mo_foretold_121 : decode b_Mo_foretold 121 = .ok (.iload_n 2, 1) := by decide +kernel
theorem d_Mo_foretold_122 : decode b_Mo_foretold 122 = .ok (.iaload, 1) := by decide +kernel
theorem d_Mo_foretold_123 : decode b_Mo_foretold 123 = .ok (.invokevirtual 601, 3) := by decide +kernel
theorem d_Mo_foretold_126 : decode b_Mo_foretold 126 = .ok (.ifCond .ge 8, 3) := by decide +kernel
theorem d_Mo_foretold_129 : decode b_Mo_foretold 129 = .ok (.bipush 50, 2) := by decide +kernel
theorem d_Mo_foretold_131 : decode b_Mo_foretold 131 = .ok (.goto 4, 3) := by decide +kernel
theorem d_Mo_foretold_134 : decode b_Mo_foretold 134 = .ok (.iconst 0, 1) := by decide +kernel
theorem d_Mo_foretold_135 : decode b_Mo_foretold 135 = .ok (.ireturn, 1) := by decide +kernel
theorem d_Mo_foretold_136 : decode b_Mo_foretold 136 = .ok (.iload_n 3, 1) := by decide +kernel
theorem d_Mo_foretold_137 : decode b_Mo_foretold 137 = .ok (.bipush 41, 2) := by decide +kernel
theorem d_Mo_foretold_139 : decode b_Mo_foretold 139 = .ok (.if_icmp .eq 5, 3) := by decide +kernel
theorem d_Mo_foretold_142 : decode b_Mo_foretold 142 = .ok (.iconst 0, 1) := by decide +kernel
theorem d_Mo_foretold_143 : decode b_Mo_foretold 143 = .ok (.ireturn, 1) := by decide +kernel
theorem d_Mo_foretold_144 : decode b_Mo_foretold 144 = .ok (.aload_n 0, 1) := by decide +kernel
theorem d_Mo_foretold_145 : decode b_Mo_foretold 145 = .ok (.aload_n 0, 1) := by decide +kernel
theorem d_Mo_foretold_146 : decode b_Mo_foretold 146 = .ok (.getfield 522, 3) := by decide +kernel
theorem d_Mo_foretold_149 : decode b_Mo_foretold 149 = .ok (.getfield 677, 3) := by decide +kernel
theorem d_Mo_foretold_152 : decode b_Mo_foretold 152 = .ok (.iload_n 2, 1) := by decide +kernel
theorem d_Mo_foretold_153 : decode b_Mo_foretold 153 = .ok (.iaload, 1) := by decide +kernel
theorem d_Mo_foretold_154 : decode b_Mo_foretold 154 = .ok (.invokevirtual 859, 3) := by decide +kernel
theorem d_Mo_foretold_157 : decode b_Mo_foretold 157 = .ok (.istore 4, 2) := by decide +kernel
theorem d_Mo_foretold_159 : decode b_Mo_foretold 159 = .ok (.iload 4, 2) := by decide +kernel
theorem d_Mo_foretold_161 : decode b_Mo_foretold 161 = .ok (.ifCond .ge 10, 3) := by decide +kernel
theorem d_Mo_foretold_164 : decode b_Mo_foretold 164 = .ok (.aload_n 0, 1) := by decide +kernel
theorem d_Mo_foretold_165 : decode b_Mo_foretold 165 = .ok (.getfield 844, 3) := by decide +kernel
theorem d_Mo_foretold_168 : decode b_Mo_foretold 168 = .ok (.goto 34, 3) := by decide +kernel
theorem d_Mo_foretold_171 : decode b_Mo_foretold 171 = .ok (.aload_n 0, 1) := by decide +kernel
theorem d_Mo_foretold_172 : decode b_Mo_foretold 172 = .ok (.bipush 7, 2) := by decide +kernel
theorem d_Mo_foretold_174 : decode b_Mo_foretold 174 = .ok (.invokevirtual 609, 3) := by decide +kernel
theorem d_Mo_foretold_177 : decode b_Mo_foretold 177 = .ok (.ifCond .ne 24, 3) := by decide +kernel
theorem d_Mo_foretold_180 : decode b_Mo_foretold 180 = .ok (.aload_n 0, 1) := by decide +kernel
theorem d_Mo_foretold_181 : decode b_Mo_foretold 181 = .ok (.getfield 522, 3) := by decide +kernel
theorem d_Mo_foretold_184 : decode b_Mo_foretold 184 = .ok (.getfield 429, 3) := by decide +kernel
theorem d_Mo_foretold_187 : decode b_Mo_foretold 187 = .ok (.iload 4, 2) := by decide +kernel
theorem d_Mo_foretold_189 : decode b_Mo_foretold 189 = .ok (.iaload, 1) := by decide +kernel
theorem d_Mo_foretold_190 : decode b_Mo_foretold 190 = .ok (.bipush 6, 2) := by decide +kernel
theorem d_Mo_foretold_192 : decode b_Mo_foretold 192 = .ok (.iand, 1) := by decide +kernel
theorem d_Mo_foretold_193 : decode b_Mo_foretold 193 = .ok (.ifCond .eq 8, 3) := by decide +kernel
theorem d_Mo_foretold_196 : decode b_Mo_foretold 196 = .ok (.bipush 57, 2) := by decide +kernel
theorem d_Mo_foretold_198 : decode b_Mo_foretold 198 = .ok (.goto 4, 3) := by decide +kernel
theorem d_Mo_foretold_201 : decode b_Mo_foretold 201 = .ok (.iconst 0, 1) := by decide +kernel
theorem d_Mo_foretold_202 : decode b_Mo_foretold 202 = .ok (.ireturn, 1) := by decide +kernel
abbrev ru_Mo_foretold : Room := { frames := 471, cells := 0, slots := 0, locals := 11462 }
def wj_Mo_foretold_135 (y : Ly) (Post : St → Int32 → Prop) (a0 : Nat) (s_j135 : St) (z0j135 : Int32) : Prop := Post s_j135 z0j135
def wj_Mo_foretold_113 (y : Ly) (Post : St → Int32 → Prop) (a0 : Nat) (s_j113 : St) (x2j113 : Int32) : Prop := ∃ b_5 : Nat, sO s_j113 a0 45 = some b_5 ∧ cl b_5 = 13 ∧ xA y s_j113 b_5 31 x2j113 (fun x_8 : Int32 => wu_Mo_classOf y (fun (s_10 : St) (r_9 : Int32) => ((0 ≤ r_9 → wj_Mo_foretold_135 y Post a0 s_10 0) ∧ (¬ (0 ≤ r_9) → wj_Mo_foretold_135 y Post a0 s_10 50))) s_j113 a0 x_8)
def wj_Mo_foretold_202 (y : Ly) (Post : St → Int32 → Prop) (a0 : Nat) (s_j202 : St) (z0j202 : Int32) : Prop := Post s_j202 z0j202
def wj_Mo_foretold_201 (y : Ly) (Post : St → Int32 → Prop) (a0 : Nat) (s_j201 : St) : Prop := wj_Mo_foretold_202 y Post a0 s_j201 0
def wj_Mo_foretold_101 (y : Ly) (Post : St → Int32 → Prop) (a0 : Nat) (s_j101 : St) (x2j101 : Int32) (x3j101 : Int32) : Prop := ((x3j101 = 54 → wj_Mo_foretold_113 y Post a0 s_j101 x2j101) ∧ (¬ (x3j101 = 54) → ((¬ x3j101 = 55 → ((x3j101 = 41 → ∃ b_11 : Nat, sO s_j101 a0 45 = some b_11 ∧ cl b_11 = 13 ∧ xA y s_j101 b_11 31 x2j101 (fun x_14 : Int32 => wu_Mo_findLinked y (fun (s_16 : St) (r_15 : Int32) => ((0 ≤ r_15 → wu_Mo_isOff y (fun (s_18 : St) (r_17 : Int32) => ((¬ r_17 = 0 → wj_Mo_foretold_201 y Post a0 s_18) ∧ (r_17 = 0 → ∃ b_19 : Nat, sO s_18 a0 45 = some b_19 ∧ cl b_19 = 13 ∧ xA y s_18 b_19 5 r_15 (fun x_22 : Int32 => (((x_22 &&& 6) = 0 → wj_Mo_foretold_201 y Post a0 s_18) ∧ (¬ ((x_22 &&& 6) = 0) → wj_Mo_foretold_202 y Post a0 s_18 57)))))) s_16 a0 7) ∧ (¬ (0 ≤ r_15) → wj_Mo_foretold_202 y Post a0 s_16 (sV s_16 a0 81)))) s_j101 a0 x_14)) ∧ (¬ (x3j101 = 41) → Post s_j101 0))) ∧ (x3j101 = 55 → wj_Mo_foretold_113 y Post a0 s_j101 x2j101))))
def wj_Mo_foretold_100 (y : Ly) (Post : St → Int32 → Prop) (a0 : Nat) (s_j100 : St) (z0j100 : Int32) : Prop := Post s_j100 z0j100
def wj_Mo_foretold_41 (y : Ly) (Post : St → Int32 → Prop) (a0 : Nat) (s_j41 : St) (x1j41 : Int32) (x2j41 : Int32) (x3j41 : Int32) : Prop := ((x3j41 < 50 → wj_Mo_foretold_101 y Post a0 s_j41 x2j41 x3j41) ∧ (¬ (x3j41 < 50) → ((53 < x3j41 → wj_Mo_foretold_101 y Post a0 s_j41 x2j41 x3j41) ∧ (¬ (53 < x3j41) → ∃ b_23 : Nat, sO s_j41 a0 45 = some b_23 ∧ cl b_23 = 13 ∧ xA y s_j41 b_23 31 x2j41 (fun x_26 : Int32 => xA y s_j41 b_23 32 x2j41 (fun x_27 : Int32 => xA y s_j41 b_23 33 x2j41 (fun x_28 : Int32 => wu_Mo_findMethod y (fun (s_30 : St) (r_29 : Int32) => ((0 ≤ r_29 → wj_Mo_foretold_100 y Post a0 s_30 0) ∧ (¬ (0 ≤ r_29) → wj_Mo_foretold_100 y Post a0 s_30 (sV s_30 a0 81)))) s_j41 a0 x3j41 x_26 x_27 x_28 (x1j41 / 12))))))))
def wj_Mo_foretold_40 (y : Ly) (Post : St → Int32 → Prop) (a0 : Nat) (s_j40 : St) (z0j40 : Int32) : Prop := Post s_j40 z0j40
def wu_Mo_foretold (y : Ly) (Post : St → Int32 → Prop) (σ : St) (a0 : Nat) (v1 : Int32) (v2 : Int32) : Prop := ∃ b_1 : Nat, sO σ a0 45 = some b_1 ∧ cl b_1 = 13 ∧ xA y σ b_1 30 v2 (fun x_4 : Int32 => ((x_4 < 46 → wj_Mo_foretold_41 y Post a0 σ v1 v2 x_4) ∧ (¬ (x_4 < 46) → ((49 < x_4 → wj_Mo_foretold_41 y Post a0 σ v1 v2 x_4) ∧ (¬ (49 < x_4) → wu_Mo_findField y (fun (s_32 : St) (r_31 : Int32) => ((0 ≤ r_31 → wj_Mo_foretold_40 y Post a0 s_32 0) ∧ (¬ (0 ≤ r_31) → wj_Mo_foretold_40 y Post a0 s_32 (sV s_32 a0 81)))) σ a0 x_4 v2 v1)))))
set_option maxHeartbeats 4000000 in
set_option maxRecDepth 100000 in
theorem cu_Mo_foretold (l : Launch) (D : va_G) (g : Nat → ClassId) (ad : Nat → Nat) (y : Ly) (Post : St → Int32 → Prop) (σ : St) (a0 : Nat) (v1 : Int32) (v2 : Int32) (sz : Nat) (h_a0 : cl a0 = 14) (h : wu_Mo_foretold y Post σ a0 v1 v2) : Met l y_Mo_foretold (mw y_Mo_foretold b_Mo_foretold 5 (some .int)) ru_Mo_foretold (PC g D [] [.ref (ad a0), .int v1, .int v2] sz (ws g ad y σ)) (va_Qi (fun (r : Int32) (u : St) => Post u r) (QW D (va_A (ws g ad y σ) sz) (fun u => ws g ad y u)) (va_A (ws g ad y σ) sz)) 0 0 (va_A (ws g ad y σ) sz) := by
  refine ofI (by decide +kernel) (Nat.le_of_ble_eq_true rfl) ?_
  intro p e s m args below meth c A Q ls H locs G hsz hP hD hS hl hret
  subst hsz
  have hl : lv_has ls 5 [(0, .ref (ad a0)), (1, .int v1), (2, .int v2)] := hl
  unfold wu_Mo_foretold at h
  refine lv_aload_n G.1 G.2.1 d_Mo_foretold_0 rfl (lv_at hl 0 rfl) ?_
  obtain ⟨b_1, e_2, c_3, h⟩ := h
  refine ugf (v := .ref (ad b_1)) G hP h_a0 iMo rfl 45 (by decide) rfl q3109 rfl (by show va_rf ((sO σ a0 45).map ad) = _; rw [e_2]; rfl) d_Mo_foretold_1 ?_
  refine ugfN (v := .ref (yP y b_1 30)) G hP c_3 iMw rfl 30 (by decide) rfl q2764 rfl rfl d_Mo_foretold_4 ?_
  refine lv_iload_n G.1 G.2.1 d_Mo_foretold_7 rfl (lv_at hl 2 rfl) ?_
  refine ubald G hP (kdp c_3 rfl) (typ c_3 rfl) h d_Mo_foretold_8 (fun x_4 h => ?_)
  refine lv_istore_n (lv' := [(3, .int x_4), (0, .ref (ad a0)), (1, .int v1), (2, .int v2)]) G.1 G.2.1 d_Mo_foretold_9 rfl hl (by decide) rfl (fun ls hl => ?_)
  refine lv_iload_n G.1 G.2.1 d_Mo_foretold_10 rfl (lv_at hl 0 rfl) ?_
  refine lv_bipush (v := 46) G.1 G.2.1 d_Mo_foretold_11 (by decide) ?_
  have J_41 : ∀ (s_j41 : St) (x1j41 : Int32) (x2j41 : Int32) (x3j41 : Int32) (H : Heap) (locs : List Loc), wj_Mo_foretold_41 y Post a0 s_j41 x1j41 x2j41 x3j41 → va_P D CL (ws g ad y s_j41) H → va_D A (ws g ad y s_j41) → va_S A s.heap H locs → ∀ ls, lv_has ls 5 [(0, .ref (ad a0)), (1, .int x1j41), (2, .int x2j41), (3, .int x3j41)] → W p l e ru_Mo_foretold s m args below meth c H locs 0 0 Q (F0 m 41 ls []) := by
    intro s_j41 x1j41 x2j41 x3j41 H locs h hP hD hS ls hl
    unfold wj_Mo_foretold_41 at h
    refine lv_iload_n G.1 G.2.1 d_Mo_foretold_41 rfl (lv_at hl 3 rfl) ?_
    refine lv_bipush (v := 50) G.1 G.2.1 d_Mo_foretold_42 (by decide) ?_
    have J_101 : ∀ (s_j101 : St) (x2j101 : Int32) (x3j101 : Int32) (H : Heap) (locs : List Loc), wj_Mo_foretold_101 y Post a0 s_j101 x2j101 x3j101 → va_P D CL (ws g ad y s_j101) H → va_D A (ws g ad y s_j101) → va_S A s.heap H locs → ∀ ls, lv_has ls 5 [(0, .ref (ad a0)), (2, .int x2j101), (3, .int x3j101)] → W p l e ru_Mo_foretold s m args below meth c H locs 0 0 Q (F0 m 101 ls []) := by
      intro s_j101 x2j101 x3j101 H locs h hP hD hS ls hl
      unfold wj_Mo_foretold_101 at h
      refine lv_iload_n G.1 G.2.1 d_Mo_foretold_101 rfl (lv_at hl 2 rfl) ?_
      refine lv_bipush (v := 54) G.1 G.2.1 d_Mo_foretold_102 (by decide) ?_
      have J_113 : ∀ (s_j113 : St) (x2j113 : Int32) (H : Heap) (locs : List Loc), wj_Mo_foretold_113 y Post a0 s_j113 x2j113 → va_P D CL (ws g ad y s_j113) H → va_D A (ws g ad y s_j113) → va_S A s.heap H locs → ∀ ls, lv_has ls 5 [(0, .ref (ad a0)), (2, .int x2j113)] → W p l e ru_Mo_foretold s m args below meth c H locs 0 0 Q (F0 m 113 ls []) := by
        intro s_j113 x2j113 H locs h hP hD hS ls hl
        unfold wj_Mo_foretold_113 at h
        refine lv_aload_n G.1 G.2.1 d_Mo_foretold_113 rfl (lv_at hl 0 rfl) ?_
        refine lv_aload_n G.1 G.2.1 d_Mo_foretold_114 rfl (lv_at hl 0 rfl) ?_
        obtain ⟨b_5, e_6, c_7, h⟩ := h
        refine ugf (v := .ref (ad b_5)) G hP h_a0 iMo rfl 45 (by decide) rfl q3109 rfl (by show va_rf ((sO s_j113 a0 45).map ad) = _; rw [e_6]; rfl) d_Mo_foretold_115 ?_
        refine ugfN (v := .ref (yP y b_5 31)) G hP c_7 iMw rfl 31 (by decide) rfl q2766 rfl rfl d_Mo_foretold_118 ?_
        refine lv_iload_n G.1 G.2.1 d_Mo_foretold_121 rfl (lv_at hl 1 rfl) ?_
        refine uiald G hP (kdp c_7 rfl) (typ c_7 rfl) h d_Mo_foretold_122 (fun x_8 h => ?_)
        refine ucVi (As := [.int x_8]) (rest := []) G hP hD hS (cu_Mo_classOf l D g ad y _ s_j113 a0 x_8 H.size h_a0 h) w9_Mo_classOf q3571 ⟨Nat.le_of_ble_eq_true rfl, Nat.le_of_ble_eq_true rfl⟩ rfl rfl h_a0 (q := (RMo, TMo, 131)) rfl rfl hl.1 rfl (Nat.le_of_ble_eq_true rfl) rfl ⟨Nat.le_refl _, Nat.le_refl _⟩ d_Mo_foretold_123 (fun r_9 s_10 H locs h hP hD hS => ?_)
        have J_135 : ∀ (s_j135 : St) (z0j135 : Int32) (H : Heap) (locs : List Loc), wj_Mo_foretold_135 y Post a0 s_j135 z0j135 → va_P D CL (ws g ad y s_j135) H → va_D A (ws g ad y s_j135) → va_S A s.heap H locs → ∀ ls, lv_has ls 5 [] → W p l e ru_Mo_foretold s m args below meth c H locs 0 0 Q (F0 m 135 ls [.int z0j135]) := by
          intro s_j135 z0j135 H locs h hP hD hS ls hl
          unfold wj_Mo_foretold_135 at h
          exact hret _ _ _ _ _ _ _ ls h hP hD hS (Nat.le_refl _) (Nat.le_refl _) d_Mo_foretold_135
        refine lv_if_ge (tgt := 134) G.1 G.2.1 d_Mo_foretold_126 (by decide) (fun c126 => ?_) (fun c126 => ?_)
        · skip
          have h := h.1 c126
          refine lv_iconst (v := 0) G.1 G.2.1 d_Mo_foretold_134 (by decide) ?_
          exact J_135 s_10 0 H locs h hP hD hS ls (lv_sub hl [] rfl)
        · skip
          have h := h.2 c126
          refine lv_bipush (v := 50) G.1 G.2.1 d_Mo_foretold_129 (by decide) ?_
          refine lv_goto (tgt := 135) G.1 G.2.1 d_Mo_foretold_131 (by decide) ?_
          exact J_135 s_10 50 H locs h hP hD hS ls (lv_sub hl [] rfl)
      refine lv_icmp_eq (tgt := 113) G.1 G.2.1 d_Mo_foretold_104 (by decide) (fun c104 => ?_) (fun c104 => ?_)
      · skip
        have h := h.1 c104
        exact J_113 s_j101 x2j101 H locs h hP hD hS ls (lv_sub hl [0, 1] rfl)
      · skip
        have h := h.2 c104
        refine lv_iload_n G.1 G.2.1 d_Mo_foretold_107 rfl (lv_at hl 2 rfl) ?_
        refine lv_bipush (v := 55) G.1 G.2.1 d_Mo_foretold_108 (by decide) ?_
        refine lv_icmp_ne (tgt := 136) G.1 G.2.1 d_Mo_foretold_110 (by decide) (fun c110 => ?_) (fun c110 => ?_)
        · skip
          have h := h.1 c110
          refine lv_iload_n G.1 G.2.1 d_Mo_foretold_136 rfl (lv_at hl 2 rfl) ?_
          refine lv_bipush (v := 41) G.1 G.2.1 d_Mo_foretold_137 (by decide) ?_
          refine lv_icmp_eq (tgt := 144) G.1 G.2.1 d_Mo_foretold_139 (by decide) (fun c139 => ?_) (fun c139 => ?_)
          · skip
            have h := h.1 c139
            refine lv_aload_n G.1 G.2.1 d_Mo_foretold_144 rfl (lv_at hl 0 rfl) ?_
            refine lv_aload_n G.1 G.2.1 d_Mo_foretold_145 rfl (lv_at hl 0 rfl) ?_
            refine W.eq (g2 := F0 m 146 ls [.ref (ad a0), .ref (ad a0)]) rfl ?_
            obtain ⟨b_11, e_12, c_13, h⟩ := h
            refine ugf (v := .ref (ad b_11)) G hP h_a0 iMo rfl 45 (by decide) rfl q3109 rfl (by show va_rf ((sO s_j101 a0 45).map ad) = _; rw [e_12]; rfl) d_Mo_foretold_146 ?_
            refine ugfN (v := .ref (yP y b_11 31)) G hP c_13 iMw rfl 31 (by decide) rfl q2766 rfl rfl d_Mo_foretold_149 ?_
            refine lv_iload_n G.1 G.2.1 d_Mo_foretold_152 rfl (lv_at hl 1 rfl) ?_
            refine uiald G hP (kdp c_13 rfl) (typ c_13 rfl) h d_Mo_foretold_153 (fun x_14 h => ?_)
            refine ucVi (As := [.int x_14]) (rest := []) G hP hD hS (cu_Mo_findLinked l D g ad y _ s_j101 a0 x_14 H.size h_a0 h) w9_Mo_findLinked q3855 ⟨Nat.le_of_ble_eq_true rfl, Nat.le_of_ble_eq_true rfl⟩ rfl rfl h_a0 (q := (RMo, TMo, 131)) rfl rfl hl.1 rfl (Nat.le_of_ble_eq_true rfl) rfl ⟨Nat.le_refl _, Nat.le_refl _⟩ d_Mo_foretold_154 (fun r_15 s_16 H locs h hP hD hS => ?_)
            refine lv_istore (lv' := [(4, .int r_15), (0, .ref (ad a0)), (2, .int x2j101), (3, .int x3j101)]) G.1 G.2.1 d_Mo_foretold_157 hl (by decide) rfl (fun ls hl => ?_)
            refine lv_iload G.1 G.2.1 d_Mo_foretold_159 (lv_at hl 0 rfl) ?_
            have J_202 : ∀ (s_j202 : St) (z0j202 : Int32) (H : Heap) (locs : List Loc), wj_Mo_foretold_202 y Post a0 s_j202 z0j202 → va_P D CL (ws g ad y s_j202) H → va_D A (ws g ad y s_j202) → va_S A s.heap H locs → ∀ ls, lv_has ls 5 [] → W p l e ru_Mo_foretold s m args below meth c H locs 0 0 Q (F0 m 202 ls [.int z0j202]) := by
              intro s_j202 z0j202 H locs h hP hD hS ls hl
              unfold wj_Mo_foretold_202 at h
              exact hret _ _ _ _ _ _ _ ls h hP hD hS (Nat.le_refl _) (Nat.le_refl _) d_Mo_foretold_202
            refine lv_if_ge (tgt := 171) G.1 G.2.1 d_Mo_foretold_161 (by decide) (fun c161 => ?_) (fun c161 => ?_)
            · skip
              have h := h.1 c161
              refine lv_aload_n G.1 G.2.1 d_Mo_foretold_171 rfl (lv_at hl 1 rfl) ?_
              refine lv_bipush (v := 7) G.1 G.2.1 d_Mo_foretold_172 (by decide) ?_
              refine ucVi (As := [.int 7]) (rest := []) G hP hD hS (cu_Mo_isOff l D g ad y _ s_16 a0 7 H.size h_a0 h) w9_Mo_isOff q3579 ⟨Nat.le_of_ble_eq_true rfl, Nat.le_of_ble_eq_true rfl⟩ rfl rfl h_a0 (q := (RMo, TMo, 131)) rfl rfl hl.1 rfl (Nat.le_of_ble_eq_true rfl) rfl ⟨Nat.le_refl _, Nat.le_refl _⟩ d_Mo_foretold_174 (fun r_17 s_18 H locs h hP hD hS => ?_)
              have J_201 : ∀ (s_j201 : St) (H : Heap) (locs : List Loc), wj_Mo_foretold_201 y Post a0 s_j201 → va_P D CL (ws g ad y s_j201) H → va_D A (ws g ad y s_j201) → va_S A s.heap H locs → ∀ ls, lv_has ls 5 [] → W p l e ru_Mo_foretold s m args below meth c H locs 0 0 Q (F0 m 201 ls []) := by
                intro s_j201 H locs h hP hD hS ls hl
                unfold wj_Mo_foretold_201 at h
                refine lv_iconst (v := 0) G.1 G.2.1 d_Mo_foretold_201 (by decide) ?_
                exact J_202 s_j201 0 H locs h hP hD hS ls (lv_sub hl [] rfl)
              refine lv_if_ne (tgt := 201) G.1 G.2.1 d_Mo_foretold_177 (by decide) (fun c177 => ?_) (fun c177 => ?_)
              · skip
                have h := h.1 c177
                exact J_201 s_18 H locs h hP hD hS ls (lv_sub hl [] rfl)
              · skip
                have h := h.2 c177
                refine W.eq (g2 := F0 m 180 ls []) rfl ?_
                refine lv_aload_n G.1 G.2.1 d_Mo_foretold_180 rfl (lv_at hl 1 rfl) ?_
                obtain ⟨b_19, e_20, c_21, h⟩ := h
                refine ugf (v := .ref (ad b_19)) G hP h_a0 iMo rfl 45 (by decide) rfl q3109 rfl (by show va_rf ((sO s_18 a0 45).map ad) = _; rw [e_20]; rfl) d_Mo_foretold_181 ?_
                refine ugfN (v := .ref (yP y b_19 5)) G hP c_21 iMw rfl 5 (by decide) rfl q2714 rfl rfl d_Mo_foretold_184 ?_
                refine lv_iload G.1 G.2.1 d_Mo_foretold_187 (lv_at hl 0 rfl) ?_
                refine uiald G hP (kdp c_21 rfl) (typ c_21 rfl) h d_Mo_foretold_189 (fun x_22 h => ?_)
                refine lv_bipush (v := 6) G.1 G.2.1 d_Mo_foretold_190 (by decide) ?_
                refine lv_iand G.1 G.2.1 d_Mo_foretold_192 ?_
                refine lv_if_eq (tgt := 201) G.1 G.2.1 d_Mo_foretold_193 (by decide) (fun c193 => ?_) (fun c193 => ?_)
                · skip
                  have h := h.1 c193
                  exact J_201 s_18 H locs h hP hD hS ls (lv_sub hl [] rfl)
                · skip
                  have h := h.2 c193
                  refine lv_bipush (v := 57) G.1 G.2.1 d_Mo_foretold_196 (by decide) ?_
                  refine lv_goto (tgt := 202) G.1 G.2.1 d_Mo_foretold_198 (by decide) ?_
                  exact J_202 s_18 57 H locs h hP hD hS ls (lv_sub hl [] rfl)
            · skip
              have h := h.2 c161
              refine lv_aload_n G.1 G.2.1 d_Mo_foretold_164 rfl (lv_at hl 1 rfl) ?_
              refine ugf (v := .int (sV s_16 a0 81)) G hP h_a0 iMo rfl 81 (by decide) rfl q3145 rfl rfl d_Mo_foretold_165 ?_
              refine lv_goto (tgt := 202) G.1 G.2.1 d_Mo_foretold_168 (by decide) ?_
              exact J_202 s_16 (sV s_16 a0 81) H locs h hP hD hS ls (lv_sub hl [] rfl)
          · skip
            have h := h.2 c139
            refine lv_iconst (v := 0) G.1 G.2.1 d_Mo_foretold_142 (by decide) ?_
            exact hret _ _ _ _ _ _ _ ls h hP hD hS (Nat.le_refl _) (Nat.le_refl _) d_Mo_foretold_143
        · skip
          have h := h.2 c110
          exact J_113 s_j101 x2j101 H locs h hP hD hS ls (lv_sub hl [0, 1] rfl)
    refine lv_icmp_lt (tgt := 101) G.1 G.2.1 d_Mo_foretold_44 (by decide) (fun c44 => ?_) (fun c44 => ?_)
    · skip
      have h := h.1 c44
      exact J_101 s_j41 x2j41 x3j41 H locs h hP hD hS ls (lv_sub hl [0, 2, 3] rfl)
    · skip
      have h := h.2 c44
      refine lv_iload_n G.1 G.2.1 d_Mo_foretold_47 rfl (lv_at hl 3 rfl) ?_
      refine lv_bipush (v := 53) G.1 G.2.1 d_Mo_foretold_48 (by decide) ?_
      refine lv_icmp_gt (tgt := 101) G.1 G.2.1 d_Mo_foretold_50 (by decide) (fun c50 => ?_) (fun c50 => ?_)
      · skip
        have h := h.1 c50
        exact J_101 s_j41 x2j41 x3j41 H locs h hP hD hS ls (lv_sub hl [0, 2, 3] rfl)
      · skip
        have h := h.2 c50
        refine lv_aload_n G.1 G.2.1 d_Mo_foretold_53 rfl (lv_at hl 0 rfl) ?_
        refine lv_iload_n G.1 G.2.1 d_Mo_foretold_54 rfl (lv_at hl 3 rfl) ?_
        refine lv_aload_n G.1 G.2.1 d_Mo_foretold_55 rfl (lv_at hl 0 rfl) ?_
        obtain ⟨b_23, e_24, c_25, h⟩ := h
        refine ugf (v := .ref (ad b_23)) G hP h_a0 iMo rfl 45 (by decide) rfl q3109 rfl (by show va_rf ((sO s_j41 a0 45).map ad) = _; rw [e_24]; rfl) d_Mo_foretold_56 ?_
        refine ugfN (v := .ref (yP y b_23 31)) G hP c_25 iMw rfl 31 (by decide) rfl q2766 rfl rfl d_Mo_foretold_59 ?_
        refine W.eq (g2 := F0 m 62 ls [.ref (yP y b_23 31), .int x3j41, .ref (ad a0)]) rfl ?_
        refine lv_iload_n G.1 G.2.1 d_Mo_foretold_62 rfl (lv_at hl 2 rfl) ?_
        refine uiald G hP (kdp c_25 rfl) (typ c_25 rfl) h d_Mo_foretold_63 (fun x_26 h => ?_)
        refine lv_aload_n G.1 G.2.1 d_Mo_foretold_64 rfl (lv_at hl 0 rfl) ?_
        refine ugf (v := .ref (ad b_23)) G hP h_a0 iMo rfl 45 (by decide) rfl q3109 rfl (by show va_rf ((sO s_j41 a0 45).map ad) = _; rw [e_24]; rfl) d_Mo_foretold_65 ?_
        refine ugfN (v := .ref (yP y b_23 32)) G hP c_25 iMw rfl 32 (by decide) rfl q2768 rfl rfl d_Mo_foretold_68 ?_
        refine lv_iload_n G.1 G.2.1 d_Mo_foretold_71 rfl (lv_at hl 2 rfl) ?_
        refine uiald G hP (kdp c_25 rfl) (typ c_25 rfl) h d_Mo_foretold_72 (fun x_27 h => ?_)
        refine lv_aload_n G.1 G.2.1 d_Mo_foretold_73 rfl (lv_at hl 0 rfl) ?_
        refine ugf (v := .ref (ad b_23)) G hP h_a0 iMo rfl 45 (by decide) rfl q3109 rfl (by show va_rf ((sO s_j41 a0 45).map ad) = _; rw [e_24]; rfl) d_Mo_foretold_74 ?_
        refine ugfN (v := .ref (yP y b_23 33)) G hP c_25 iMw rfl 33 (by decide) rfl q2770 rfl rfl d_Mo_foretold_77 ?_
        refine lv_iload_n G.1 G.2.1 d_Mo_foretold_80 rfl (lv_at hl 2 rfl) ?_
        refine uiald G hP (kdp c_25 rfl) (typ c_25 rfl) h d_Mo_foretold_81 (fun x_28 h => ?_)
        refine W.eq (g2 := F0 m 82 ls [.int x_28, .int x_27, .int x_26, .int x3j41, .ref (ad a0)]) rfl ?_
        refine lv_iload_n G.1 G.2.1 d_Mo_foretold_82 rfl (lv_at hl 1 rfl) ?_
        refine lv_bipush (v := 12) G.1 G.2.1 d_Mo_foretold_83 (by decide) ?_
        refine lv_idiv G.1 G.2.1 d_Mo_foretold_85 (by decide) ?_
        refine ucVi (As := [.int x3j41, .int x_26, .int x_27, .int x_28, .int (x1j41 / 12)]) (rest := []) G hP hD hS (cu_Mo_findMethod l D g ad y _ s_j41 a0 x3j41 x_26 x_27 x_28 (x1j41 / 12) H.size h_a0 h) w9_Mo_findMethod q3851 ⟨Nat.le_of_ble_eq_true rfl, Nat.le_of_ble_eq_true rfl⟩ rfl rfl h_a0 (q := (RMo, TMo, 131)) rfl rfl hl.1 rfl (Nat.le_of_ble_eq_true rfl) rfl ⟨Nat.le_refl _, Nat.le_refl _⟩ d_Mo_foretold_86 (fun r_29 s_30 H locs h hP hD hS => ?_)
        have J_100 : ∀ (s_j100 : St) (z0j100 : Int32) (H : Heap) (locs : List Loc), wj_Mo_foretold_100 y Post a0 s_j100 z0j100 → va_P D CL (ws g ad y s_j100) H → va_D A (ws g ad y s_j100) → va_S A s.heap H locs → ∀ ls, lv_has ls 5 [] → W p l e ru_Mo_foretold s m args below meth c H locs 0 0 Q (F0 m 100 ls [.int z0j100]) := by
          intro s_j100 z0j100 H locs h hP hD hS ls hl
          unfold wj_Mo_foretold_100 at h
          exact hret _ _ _ _ _ _ _ ls h hP hD hS (Nat.le_refl _) (Nat.le_refl _) d_Mo_foretold_100
        refine lv_if_ge (tgt := 99) G.1 G.2.1 d_Mo_foretold_89 (by decide) (fun c89 => ?_) (fun c89 => ?_)
        · skip
          have h := h.1 c89
          refine lv_iconst (v := 0) G.1 G.2.1 d_Mo_foretold_99 (by decide) ?_
          exact J_100 s_30 0 H locs h hP hD hS ls (lv_sub hl [] rfl)
        · skip
          have h := h.2 c89
          refine lv_aload_n G.1 G.2.1 d_Mo_foretold_92 rfl (lv_at hl 0 rfl) ?_
          refine ugf (v := .int (sV s_30 a0 81)) G hP h_a0 iMo rfl 81 (by decide) rfl q3145 rfl rfl d_Mo_foretold_93 ?_
          refine lv_goto (tgt := 100) G.1 G.2.1 d_Mo_foretold_96 (by decide) ?_
          exact J_100 s_30 (sV s_30 a0 81) H locs h hP hD hS ls (lv_sub hl [] rfl)
  refine lv_icmp_lt (tgt := 41) G.1 G.2.1 d_Mo_foretold_13 (by decide) (fun c13 => ?_) (fun c13 => ?_)
  · skip
    have h := h.1 c13
    exact J_41 σ v1 v2 x_4 H locs h hP hD hS ls (lv_sub hl [1, 2, 3, 0] rfl)
  · skip
    have h := h.2 c13
    refine lv_iload_n G.1 G.2.1 d_Mo_foretold_16 rfl (lv_at hl 0 rfl) ?_
    refine lv_bipush (v := 49) G.1 G.2.1 d_Mo_foretold_17 (by decide) ?_
    refine W.eq (g2 := F0 m 19 ls [.int 49, .int x_4]) rfl ?_
    refine lv_icmp_gt (tgt := 41) G.1 G.2.1 d_Mo_foretold_19 (by decide) (fun c19 => ?_) (fun c19 => ?_)
    · skip
      have h := h.1 c19
      exact J_41 σ v1 v2 x_4 H locs h hP hD hS ls (lv_sub hl [1, 2, 3, 0] rfl)
    · skip
      have h := h.2 c19
      refine lv_aload_n G.1 G.2.1 d_Mo_foretold_22 rfl (lv_at hl 1 rfl) ?_
      refine lv_iload_n G.1 G.2.1 d_Mo_foretold_23 rfl (lv_at hl 0 rfl) ?_
      refine lv_iload_n G.1 G.2.1 d_Mo_foretold_24 rfl (lv_at hl 3 rfl) ?_
      refine lv_iload_n G.1 G.2.1 d_Mo_foretold_25 rfl (lv_at hl 2 rfl) ?_
      refine ucVi (As := [.int x_4, .int v2, .int v1]) (rest := []) G hP hD hS (cu_Mo_findField l D g ad y _ σ a0 x_4 v2 v1 H.size h_a0 h) w9_Mo_findField q3931 ⟨Nat.le_of_ble_eq_true rfl, Nat.le_of_ble_eq_true rfl⟩ rfl rfl h_a0 (q := (RMo, TMo, 131)) rfl rfl hl.1 rfl (Nat.le_of_ble_eq_true rfl) rfl ⟨Nat.le_refl _, Nat.le_refl _⟩ d_Mo_foretold_26 (fun r_31 s_32 H locs h hP hD hS => ?_)
      have J_40 : ∀ (s_j40 : St) (z0j40 : Int32) (H : Heap) (locs : List Loc), wj_Mo_foretold_40 y Post a0 s_j40 z0j40 → va_P D CL (ws g ad y s_j40) H → va_D A (ws g ad y s_j40) → va_S A s.heap H locs → ∀ ls, lv_has ls 5 [] → W p l e ru_Mo_foretold s m args below meth c H locs 0 0 Q (F0 m 40 ls [.int z0j40]) := by
        intro s_j40 z0j40 H locs h hP hD hS ls hl
        unfold wj_Mo_foretold_40 at h
        exact hret _ _ _ _ _ _ _ ls h hP hD hS (Nat.le_refl _) (Nat.le_refl _) d_Mo_foretold_40
      refine lv_if_ge (tgt := 39) G.1 G.2.1 d_Mo_foretold_29 (by decide) (fun c29 => ?_) (fun c29 => ?_)
      · skip
        have h := h.1 c29
        refine lv_iconst (v := 0) G.1 G.2.1 d_Mo_foretold_39 (by decide) ?_
        exact J_40 s_32 0 H locs h hP hD hS ls (lv_sub hl [] rfl)
      · skip
        have h := h.2 c29
        refine lv_aload_n G.1 G.2.1 d_Mo_foretold_32 rfl (lv_at hl 1 rfl) ?_
        refine ugf (v := .int (sV s_32 a0 81)) G hP h_a0 iMo rfl 81 (by decide) rfl q3145 rfl rfl d_Mo_foretold_33 ?_
        refine lv_goto (tgt := 40) G.1 G.2.1 d_Mo_foretold_36 (by decide) ?_
        exact J_40 s_32 (sV s_32 a0 81) H locs h hP hD hS ls (lv_sub hl [] rfl)
theorem q4157 : Cond.methodLink "ClassWorksModel" 1285 y_Mo_foretold ∈ lw_ok := lw_okmem (List.mem_of_getElem? (i := 4157) (by decide +kernel)) rfl
theorem q4160 : Cond.code y_Mo_foretold b_Mo_foretold 5 (some .int) ∈ lw_ok := lw_okmem (List.mem_of_getElem? (i := 4160) (by decide +kernel)) rfl
theorem q4159 : Cond.instanceMethod y_Mo_foretold ∈ lw_ok := lw_okmem (List.mem_of_getElem? (i := 4159) (by decide +kernel)) rfl
theorem q313 : Cond.selects y_Mo_foretold.cls y_Mo_foretold y_Mo_foretold ∈ lw_ok := lw_okmem (List.mem_of_getElem? (i := 313) (by decide +kernel)) rfl
theorem w9_Mo_foretold : CWv y_Mo_foretold b_Mo_foretold 5 (some .int) 2 ∧ Cond.instanceMethod y_Mo_foretold ∈ lw_ok ∧ Cond.selects y_Mo_foretold.cls y_Mo_foretold y_Mo_foretold ∈ lw_ok := ⟨⟨q4160, q348, by decide +kernel, by decide +kernel, by decide +kernel⟩, q4159, q313⟩
def y_Mo_foretell : MethodName := ⟨"ClassWorksModel", "foretell", "(IIII)I"⟩
abbrev b_Mo_foretell : ByteArray := prog_14_method_180_code
theorem d_Mo_foretell_0 : decode b_Mo_foretell 0 = .ok (.aload_n 0, 1) := by decide +kernel
theorem d_Mo_foretell_1 : decode b_Mo_foretell 1 = .ok (.iload_n 1, 1) := by decide +kernel
theorem d_Mo_foretell_2 : decode b_Mo_foretell 2 = .ok (.iload_n 2, 1) := by decide +kernel
theorem d_Mo_foretell_3 : decode b_Mo_foretell 3 = .ok (.invokevirtual 1129, 3) := by decide +kernel
theorem d_Mo_foretell_6 : decode b_Mo_foretell 6 = .ok (.ifCond .eq 18, 3) := by decide +kernel
theorem d_Mo_foretell_9 : decode b_Mo_foretell 9 = .ok (.iload_n 3, 1) := by decide +kernel
theorem d_Mo_foretell_10 : decode b_Mo_foretell 10 = .ok (.ifCond .lt 14, 3) := by decide +kernel
theorem d_Mo_foretell_13 : decode b_Mo_foretell 13 = .ok (.iload 4, 2) := by decide +kernel
theorem d_Mo_foretell_15 : decode b_Mo_foretell 15 = .ok (.ifCond .lt 9, 3) := by decide +kernel
theorem d_Mo_foretell_18 : decode b_Mo_foretell 18 = .ok (.iload 4, 2) := by decide +kernel
theorem d_Mo_foretell_20 : decode b_Mo_foretell 20 = .ok (.iconst 2, 1) := by decide +kernel
theorem d_Mo_foretell_21 : decode b_Mo_foretell 21 = .ok (.if_icmp .le 5, 3) := by decide +kernel
theorem d_Mo_foretell_24 : decode b_Mo_foretell 24 = .ok (.iconst (-1), 1) := by decide +kernel
theorem d_Mo_foretell_25 : decode b_Mo_foretell 25 = .ok (.ireturn, 1) := by decide +kernel
theorem d_Mo_foretell_26 : decode b_Mo_foretell 26 = .ok (.aload_n 0, 1) := by decide +kernel
theorem d_Mo_foretell_27 : decode b_Mo_foretell 27 = .ok (.aload_n 0, 1) := by decide +kernel
theorem d_Mo_foretell_28 : decode b_Mo_foretell 28 = .ok (.getfield 263, 3) := by decide +kernel
theorem d_Mo_foretell_31 : decode b_Mo_foretell 31 = .ok (.iload_n 1, 1) := by decide +kernel
theorem d_Mo_foretell_32 : decode b_Mo_foretell 32 = .ok (.aaload, 1) := by decide +kernel
theorem d_Mo_foretell_33 : decode b_Mo_foretell 33 = .ok (.putfield 522, 3) := by decide +kernel
theorem d_Mo_foretell_36 : decode b_Mo_foretell 36 = .ok (.iload_n 3, 1) := by decide +kernel
theorem d_Mo_foretell_37 : decode b_Mo_foretell 37 = .ok (.istore 5, 2) := by decide +kernel
theorem d_Mo_foretell_39 : decode b_Mo_foretell 39 = .ok (.iconst 0, 1) := by decide +kernel
theorem d_Mo_foretell_40 : decode b_Mo_foretell 40 = .ok (.istore 6, 2) := by decide +kernel
theorem d_Mo_foretell_42 : decode b_Mo_foretell 42 = .ok (.iload 6, 2) := by decide +kernel
theorem d_Mo_foretell_44 : decode b_Mo_foretell 44 = .ok (.aload_n 0, 1) := by decide +kernel
theorem d_Mo_foretell_45 : decode b_Mo_foretell 45 = .ok (.getfield 522, 3) := by decide +kernel
theorem d_Mo_foretell_48 : decode b_Mo_foretell 48 = .ok (.getfield 438, 3) := by decide +kernel
theorem d_Mo_foretell_51 : decode b_Mo_foretell 51 = .ok (.iload_n 2, 1) := by decide +kernel
theorem d_Mo_foretell_52 : decode b_Mo_foretell 52 = .ok (.iaload, 1) := by decide +kernel
theorem d_Mo_foretell_53 : decode b_Mo_foretell 53 = .ok (.if_icmp .ge 112, 3) := by decide +kernel
theorem d_Mo_foretell_56 : decode b_Mo_foretell 56 = .ok (.bipush 12, 2) := by decide +kernel
theorem d_Mo_foretell_58 : decode b_Mo_foretell 58 = .ok (.iload_n 2, 1) := by decide +kernel
theorem d_Mo_foretell_59 : decode b_Mo_foretell 59 = .ok (.imul, 1) := by decide +kernel
theorem d_Mo_foretell_60 : decode b_Mo_foretell 60 = .ok (.iload 6, 2) := by decide +kernel
theorem d_Mo_foretell_62 : decode b_Mo_foretell 62 = .ok (.iadd, 1) := by decide +kernel
theorem d_Mo_foretell_63 : decode b_Mo_foretell 63 = .ok (.istore 7, 2) := by decide +kernel
theorem d_Mo_foretell_65 : decode b_Mo_foretell 65 = .ok (.iconst 0, 1) := by decide +kernel
theorem d_Mo_foretell_66 : decode b_Mo_foretell 66 = .ok (.istore 8, 2) := by decide +kernel
theorem d_Mo_foretell_68 : decode b_Mo_foretell 68 = .ok (.iload 8, 2) := by decide +kernel
theorem d_Mo_foretell_70 : decode b_Mo_foretell 70 = .ok (.aload_n 0, 1) := by decide +kernel
theorem d_Mo_foretell_71 : decode b_Mo_foretell 71 = .ok (.getfield 522, 3) := by decide +kernel
theorem d_Mo_foretell_74 : decode b_Mo_foretell 74 = .ok (.getfield 465, 3) := by decide +kernel
theorem d_Mo_foretell_77 : decode b_Mo_foretell 77 = .ok (.iload 7, 2) := by decide +kernel
theorem d_Mo_foretell_79 : decode b_Mo_foretell 79 = .ok (.iaload, 1) := by decide +kernel
theorem d_Mo_foretell_80 : decode b_Mo_foretell 80 = .ok (.if_icmp .ge 79, 3) := by decide +kernel
theorem d_Mo_foretell_83 : decode b_Mo_foretell 83 = .ok (.aload_n 0, 1) := by decide +kernel
theorem d_Mo_foretell_84 : decode b_Mo_foretell 84 = .ok (.iload 7, 2) := by decide +kernel
theorem d_Mo_foretell_86 : decode b_Mo_foretell 86 = .ok (.aload_n 0, 1) := by decide +kernel
theorem d_Mo_foretell_87 : decode b_Mo_foretell 87 = .ok (.getfield 522, 3) := by decide +kernel
theorem d_Mo_foretell_90 : decode b_Mo_foretell 90 = .ok (.getfield 462, 3) := by decide +kernel
theorem d_Mo_foretell_93 : decode b_Mo_foretell 93 = .ok (.iload 7, 2) := by decide +kernel
theorem d_Mo_foretell_95 : decode b_Mo_foretell 95 = .ok (.iaload, 1) := by decide +kernel
theorem d_Mo_foretell_96 : decode b_Mo_foretell 96 = .ok (.iload 8, 2) := by decide +kernel
theorem d_Mo_foretell_98 : decode b_Mo_foretell 98 = .ok (.iadd, 1) := by decide +kernel
theorem d_Mo_foretell_99 : decode b_Mo_foretell 99 = .ok (.invokevirtual 1285, 3) := by decide +kernel
theorem d_Mo_foretell_102 : decode b_Mo_foretell 102 = .ok (.istore 9, 2) := by decide +kernel
theorem d_Mo_foretell_104 : decode b_Mo_foretell 104 = .ok (.iload 9, 2) := by decide +kernel
theorem d_Mo_foretell_106 : decode b_Mo_foretell 106 = .ok (.ifCond .le 32, 3) := by decide +kernel
theorem d_Mo_foretell_109 : decode b_Mo_foretell 109 = .ok (.iload 5, 2) := by decide +kernel
theorem d_Mo_foretell_111 : decode b_Mo_foretell 111 = .ok (.ifCond .ne 27, 3) := by decide +kernel
theorem d_Mo_foretell_114 : decode b_Mo_foretell 114 = .ok (.iload 4, 2) := by decide +kernel
theorem d_Mo_foretell_116 : decode b_Mo_foretell 116 = .ok (.ifCond .ne 8, 3) := by decide +kernel
theorem d_Mo_foretell_119 : decode b_Mo_foretell 119 = .ok (.iload 6, 2) := by decide +kernel
theorem d_Mo_foretell_121 : decode b_Mo_foretell 121 = .ok (.goto 16, 3) := by decide +kernel
theorem d_Mo_foretell_124 : decode b_Mo_foretell 124 = .ok (.iload 4, 2) := by decide +kernel
theorem d_Mo_foretell_126 : decode b_Mo_foretell 126 = .ok (.iconst 1, 1) := by decide +kernel
theorem d_Mo_foretell_127 : decode b_Mo_foretell 127 = .ok (.if_icmp .ne 8, 3) := by decide +kernel
theorem d_Mo_foretell_130 : decode b_Mo_foretell 130 = .ok (.iload 8, 2) := by decide +kernel
theorem d_Mo_foretell_132 : decode b_Mo_foretell 132 = .ok (.goto 5, 3) := by decide +kernel
theorem d_Mo_foretell_135 : decode b_Mo_foretell 135 = .ok (.iload 9, 2) := by decide +kernel
theorem d_Mo_foretell_137 : decode b_Mo_foretell 137 = .ok (.ireturn, 1) := by decide +kernel
theorem d_Mo_foretell_138 : decode b_Mo_foretell 138 = .ok (.iload 5, 2) := by decide +kernel
theorem d_Mo_foretell_140 : decode b_Mo_foretell 140 = .ok (.iload 9, 2) := by decide +kernel
theorem d_Mo_foretell_142 : decode b_Mo_foretell 142 = .ok (.ifCond .le 7, 3) := by decide +kernel
theorem d_Mo_foretell_145 : decode b_Mo_foretell 145 = .ok (.iconst 1, 1) := by decide +kernel
theorem d_Mo_foretell_146 : decode b_Mo_foretell 146 = .ok (.goto 4, 3) := by decide +kernel
theorem d_Mo_foretell_149 : decode b_Mo_foretell 149 = .ok (.iconst 0, 1) := by decide +kernel
theorem d_Mo_foretell_150 : decode b_Mo_foretell 150 = .ok (.isub, 1) := by decide +kernel
theorem d_Mo_foretell_151 : decode b_Mo_foretell 151 = .ok (.istore 5, 2) := by decide +kernel
theorem d_Mo_foretell_153 : decode b_Mo_foretell 153 = .ok (.iinc 8 1, 3) := by decide +kernel
theorem d_Mo_foretell_156 : decode b_Mo_foretell 156 = .ok (.goto (-88), 3) := by decide +kernel
theorem d_Mo_foretell_159 : decode b_Mo_foretell 159 = .ok (.iinc 6 1, 3) := by decide +kernel
theorem d_Mo_foretell_162 : decode b_Mo_foretell 162 = .ok (.goto (-120), 3) := by decide +kernel
theorem d_Mo_foretell_165 : decode b_Mo_foretell 165 = .ok (.bipush (-2), 2) := by decide +kernel
theorem d_Mo_foretell_167 : decode b_Mo_foretell 167 = .ok (.ireturn, 1) := by decide +kernel
abbrev ru_Mo_foretell : Room := { frames := 472, cells := 0, slots := 0, locals := 11486 }
def wj_Mo_foretell_24 (y : Ly) (Post : St → Int32 → Prop) (a0 : Nat) (s_j24 : St) : Prop := Post s_j24 (-1)
def wj_Mo_foretell_150 (y : Ly) (Post : St → Int32 → Prop) (K_42 : St → Int32 → Int32 → Int32 → Int32 → Prop) (K_68 : St → Int32 → Int32 → Int32 → Int32 → Int32 → Int32 → Prop) (a0 : Nat) (s_j150 : St) (x2j150 : Int32) (x4j150 : Int32) (x6j150 : Int32) (x7j150 : Int32) (x8j150 : Int32) (z0j150 : Int32) (z1j150 : Int32) : Prop := K_68 s_j150 x2j150 x4j150 (z0j150 - z1j150) x6j150 x7j150 (x8j150 + 1)
def wj_Mo_foretell_138 (y : Ly) (Post : St → Int32 → Prop) (K_42 : St → Int32 → Int32 → Int32 → Int32 → Prop) (K_68 : St → Int32 → Int32 → Int32 → Int32 → Int32 → Int32 → Prop) (a0 : Nat) (s_j138 : St) (x2j138 : Int32) (x4j138 : Int32) (x5j138 : Int32) (x6j138 : Int32) (x7j138 : Int32) (x8j138 : Int32) (x9j138 : Int32) : Prop := ((x9j138 ≤ 0 → wj_Mo_foretell_150 y Post K_42 K_68 a0 s_j138 x2j138 x4j138 x6j138 x7j138 x8j138 x5j138 0) ∧ (¬ (x9j138 ≤ 0) → wj_Mo_foretell_150 y Post K_42 K_68 a0 s_j138 x2j138 x4j138 x6j138 x7j138 x8j138 x5j138 1))
def wj_Mo_foretell_137 (y : Ly) (Post : St → Int32 → Prop) (a0 : Nat) (s_j137 : St) (z0j137 : Int32) : Prop := Post s_j137 z0j137
def wb_Mo_foretell_68 (y : Ly) (Post : St → Int32 → Prop) (K_42 : St → Int32 → Int32 → Int32 → Int32 → Prop) (K_68 : St → Int32 → Int32 → Int32 → Int32 → Int32 → Int32 → Prop) (a0 : Nat) (s_h68 : St) (x2h68 : Int32) (x4h68 : Int32) (x5h68 : Int32) (x6h68 : Int32) (x7h68 : Int32) (x8h68 : Int32) : Prop := ∃ b_10 : Nat, sO s_h68 a0 45 = some b_10 ∧ cl b_10 = 13 ∧ xA y s_h68 b_10 24 x7h68 (fun x_13 : Int32 => ((x_13 ≤ x8h68 → K_42 s_h68 x2h68 x4h68 x5h68 (x6h68 + 1)) ∧ (¬ (x_13 ≤ x8h68) → xA y s_h68 b_10 23 x7h68 (fun x_14 : Int32 => wu_Mo_foretold y (fun (s_16 : St) (r_15 : Int32) => ((r_15 ≤ 0 → wj_Mo_foretell_138 y Post K_42 K_68 a0 s_16 x2h68 x4h68 x5h68 x6h68 x7h68 x8h68 r_15) ∧ (¬ (r_15 ≤ 0) → ((¬ x5h68 = 0 → wj_Mo_foretell_138 y Post K_42 K_68 a0 s_16 x2h68 x4h68 x5h68 x6h68 x7h68 x8h68 r_15) ∧ (x5h68 = 0 → ((¬ x4h68 = 0 → ((¬ x4h68 = 1 → wj_Mo_foretell_137 y Post a0 s_16 r_15) ∧ (x4h68 = 1 → wj_Mo_foretell_137 y Post a0 s_16 x8h68))) ∧ (x4h68 = 0 → wj_Mo_foretell_137 y Post a0 s_16 x6h68))))))) s_h68 a0 x7h68 (x_14 + x8h68)))))
def wl_Mo_foretell_68 (y : Ly) (Post : St → Int32 → Prop) (K_42 : St → Int32 → Int32 → Int32 → Int32 → Prop) (a0 : Nat) (s_h68 : St) (x2h68 : Int32) (x4h68 : Int32) (x5h68 : Int32) (x6h68 : Int32) (x7h68 : Int32) (x8h68 : Int32) : Prop := ∃ (I : St → Int32 → Int32 → Int32 → Int32 → Int32 → Int32 → Prop) (μ : St → Int32 → Int32 → Int32 → Int32 → Int32 → Int32 → Nat), I s_h68 x2h68 x4h68 x5h68 x6h68 x7h68 x8h68 ∧ ∀ (u : St) (t0 : Int32) (t1 : Int32) (t2 : Int32) (t3 : Int32) (t4 : Int32) (t5 : Int32), I u t0 t1 t2 t3 t4 t5 → wb_Mo_foretell_68 y Post K_42 (fun z t0q t1q t2q t3q t4q t5q => I z t0q t1q t2q t3q t4q t5q ∧ μ z t0q t1q t2q t3q t4q t5q < μ u t0 t1 t2 t3 t4 t5) a0 u t0 t1 t2 t3 t4 t5
def wb_Mo_foretell_42 (y : Ly) (Post : St → Int32 → Prop) (K_42 : St → Int32 → Int32 → Int32 → Int32 → Prop) (a0 : Nat) (s_h42 : St) (x2h42 : Int32) (x4h42 : Int32) (x5h42 : Int32) (x6h42 : Int32) : Prop := ∃ b_6 : Nat, sO s_h42 a0 45 = some b_6 ∧ cl b_6 = 13 ∧ xA y s_h42 b_6 9 x2h42 (fun x_9 : Int32 => ((x_9 ≤ x6h42 → Post s_h42 (-2)) ∧ (¬ (x_9 ≤ x6h42) → wl_Mo_foretell_68 y Post K_42 a0 s_h42 x2h42 x4h42 x5h42 x6h42 ((12 * x2h42) + x6h42) 0)))
def wl_Mo_foretell_42 (y : Ly) (Post : St → Int32 → Prop) (a0 : Nat) (s_h42 : St) (x2h42 : Int32) (x4h42 : Int32) (x5h42 : Int32) (x6h42 : Int32) : Prop := ∃ (I : St → Int32 → Int32 → Int32 → Int32 → Prop) (μ : St → Int32 → Int32 → Int32 → Int32 → Nat), I s_h42 x2h42 x4h42 x5h42 x6h42 ∧ ∀ (u : St) (t0 : Int32) (t1 : Int32) (t2 : Int32) (t3 : Int32), I u t0 t1 t2 t3 → wb_Mo_foretell_42 y Post (fun z t0q t1q t2q t3q => I z t0q t1q t2q t3q ∧ μ z t0q t1q t2q t3q < μ u t0 t1 t2 t3) a0 u t0 t1 t2 t3
def wu_Mo_foretell (y : Ly) (Post : St → Int32 → Prop) (σ : St) (a0 : Nat) (v1 : Int32) (v2 : Int32) (v3 : Int32) (v4 : Int32) : Prop := wu_Mo_isClass y (fun (s_2 : St) (r_1 : Int32) => ((r_1 = 0 → wj_Mo_foretell_24 y Post a0 s_2) ∧ (¬ (r_1 = 0) → ((v3 < 0 → wj_Mo_foretell_24 y Post a0 s_2) ∧ (¬ (v3 < 0) → ((v4 < 0 → wj_Mo_foretell_24 y Post a0 s_2) ∧ (¬ (v4 < 0) → ((v4 ≤ 2 → xQ y a0 44 v1 (fun b_3 : Nat => xP (uO s_2 a0 45 (some b_3)) (fun s_5 : St => wl_Mo_foretell_42 y Post a0 s_5 v2 v4 v3 0))) ∧ (¬ (v4 ≤ 2) → wj_Mo_foretell_24 y Post a0 s_2))))))))) σ a0 v1 v2
set_option maxHeartbeats 4000000 in
set_option maxRecDepth 100000 in
theorem cu_Mo_foretell (l : Launch) (D : va_G) (g : Nat → ClassId) (ad : Nat → Nat) (y : Ly) (Post : St → Int32 → Prop) (σ : St) (a0 : Nat) (v1 : Int32) (v2 : Int32) (v3 : Int32) (v4 : Int32) (sz : Nat) (h_a0 : cl a0 = 14) (h : wu_Mo_foretell y Post σ a0 v1 v2 v3 v4) : Met l y_Mo_foretell (mw y_Mo_foretell b_Mo_foretell 10 (some .int)) ru_Mo_foretell (PC g D [] [.ref (ad a0), .int v1, .int v2, .int v3, .int v4] sz (ws g ad y σ)) (va_Qi (fun (r : Int32) (u : St) => Post u r) (QW D (va_A (ws g ad y σ) sz) (fun u => ws g ad y u)) (va_A (ws g ad y σ) sz)) 0 0 (va_A (ws g ad y σ) sz) := by
  refine ofI (by decide +kernel) (Nat.le_of_ble_eq_true rfl) ?_
  intro p e s m args below meth c A Q ls H locs G hsz hP hD hS hl hret
  subst hsz
  have hl : lv_has ls 10 [(0, .ref (ad a0)), (1, .int v1), (2, .int v2), (3, .int v3), (4, .int v4)] := hl
  unfold wu_Mo_foretell at h
  refine lv_aload_n G.1 G.2.1 d_Mo_foretell_0 rfl (lv_at hl 0 rfl) ?_
  refine lv_iload_n G.1 G.2.1 d_Mo_foretell_1 rfl (lv_at hl 1 rfl) ?_
  refine lv_iload_n G.1 G.2.1 d_Mo_foretell_2 rfl (lv_at hl 2 rfl) ?_
  refine ucVi (As := [.int v1, .int v2]) (rest := []) G hP hD hS (cu_Mo_isClass l D g ad y _ σ a0 v1 v2 H.size h_a0 h) w9_Mo_isClass q3661 ⟨Nat.le_of_ble_eq_true rfl, Nat.le_of_ble_eq_true rfl⟩ rfl rfl h_a0 (q := (RMo, TMo, 131)) rfl rfl hl.1 rfl (Nat.le_of_ble_eq_true rfl) rfl ⟨Nat.le_refl _, Nat.le_refl _⟩ d_Mo_foretell_3 (fun r_1 s_2 H locs h hP hD hS => ?_)
  have J_24 : ∀ (s_j24 : St) (H : Heap) (locs : List Loc), wj_Mo_foretell_24 y Post a0 s_j24 → va_P D CL (ws g ad y s_j24) H → va_D A (ws g ad y s_j24) → va_S A s.heap H locs → ∀ ls, lv_has ls 10 [] → W p l e ru_Mo_foretell s m args below meth c H locs 0 0 Q (F0 m 24 ls []) := by
    intro s_j24 H locs h hP hD hS ls hl
    unfold wj_Mo_foretell_24 at h
    refine lv_iconst (v := (-1)) G.1 G.2.1 d_Mo_foretell_24 (by decide) ?_
    exact hret _ _ _ _ _ _ _ ls h hP hD hS (Nat.le_refl _) (Nat.le_refl _) d_Mo_foretell_25
  refine lv_if_eq (tgt := 24) G.1 G.2.1 d_Mo_foretell_6 (by decide) (fun c6 => ?_) (fun c6 => ?_)
  · skip
    have h := h.1 c6
    exact J_24 s_2 H locs h hP hD hS ls (lv_sub hl [] rfl)
  · skip
    have h := h.2 c6
    refine lv_iload_n G.1 G.2.1 d_Mo_foretell_9 rfl (lv_at hl 3 rfl) ?_
    refine lv_if_lt (tgt := 24) G.1 G.2.1 d_Mo_foretell_10 (by decide) (fun c10 => ?_) (fun c10 => ?_)
    · skip
      have h := h.1 c10
      exact J_24 s_2 H locs h hP hD hS ls (lv_sub hl [] rfl)
    · skip
      have h := h.2 c10
      refine lv_iload G.1 G.2.1 d_Mo_foretell_13 (lv_at hl 4 rfl) ?_
      refine lv_if_lt (tgt := 24) G.1 G.2.1 d_Mo_foretell_15 (by decide) (fun c15 => ?_) (fun c15 => ?_)
      · skip
        have h := h.1 c15
        exact J_24 s_2 H locs h hP hD hS ls (lv_sub hl [] rfl)
      · skip
        have h := h.2 c15
        refine lv_iload G.1 G.2.1 d_Mo_foretell_18 (lv_at hl 4 rfl) ?_
        refine lv_iconst (v := 2) G.1 G.2.1 d_Mo_foretell_20 (by decide) ?_
        refine W.eq (g2 := F0 m 21 ls [.int 2, .int v4]) rfl ?_
        refine lv_icmp_le (tgt := 26) G.1 G.2.1 d_Mo_foretell_21 (by decide) (fun c21 => ?_) (fun c21 => ?_)
        · skip
          have h := h.1 c21
          refine lv_aload_n G.1 G.2.1 d_Mo_foretell_26 rfl (lv_at hl 0 rfl) ?_
          refine lv_aload_n G.1 G.2.1 d_Mo_foretell_27 rfl (lv_at hl 0 rfl) ?_
          refine ugf (v := .ref (yP y a0 44)) G hP h_a0 iMo rfl 44 (by decide) rfl q3108 rfl rfl d_Mo_foretell_28 ?_
          refine lv_iload_n G.1 G.2.1 d_Mo_foretell_31 rfl (lv_at hl 1 rfl) ?_
          refine uqald G hP (kdp h_a0 rfl) (typ h_a0 rfl) rfl h d_Mo_foretell_32 (fun b_3 n_4 h => ?_)
          refine upf G hP hD hS h 45 putO h_a0 iMo tMo tMo_ok nMo rfl (by decide) rfl q3109 rfl rfl fO rfl rfl d_Mo_foretell_33 (fun s_5 H locs h hP hD hS => ?_)
          refine lv_iload_n G.1 G.2.1 d_Mo_foretell_36 rfl (lv_at hl 3 rfl) ?_
          refine lv_istore (lv' := [(5, .int v3), (0, .ref (ad a0)), (1, .int v1), (2, .int v2), (3, .int v3), (4, .int v4)]) G.1 G.2.1 d_Mo_foretell_37 hl (by decide) rfl (fun ls hl => ?_)
          refine lv_iconst (v := 0) G.1 G.2.1 d_Mo_foretell_39 (by decide) ?_
          refine lv_istore (lv' := [(6, .int 0), (5, .int v3), (0, .ref (ad a0)), (1, .int v1), (2, .int v2), (3, .int v3), (4, .int v4)]) G.1 G.2.1 d_Mo_foretell_40 hl (by decide) rfl (fun ls hl => ?_)
          unfold wl_Mo_foretell_42 at h
          obtain ⟨I_42, μ_42, hI_42, hB_42⟩ := h
          have L_42 : ∀ (n_42 : Nat) (s_h42 : St) (x2h42 : Int32) (x4h42 : Int32) (x5h42 : Int32) (x6h42 : Int32), μ_42 s_h42 x2h42 x4h42 x5h42 x6h42 < n_42 → I_42 s_h42 x2h42 x4h42 x5h42 x6h42 → ∀ (H : Heap) (locs : List Loc), va_P D CL (ws g ad y s_h42) H → va_D A (ws g ad y s_h42) → va_S A s.heap H locs → ∀ ls, lv_has ls 10 [(0, .ref (ad a0)), (2, .int x2h42), (4, .int x4h42), (5, .int x5h42), (6, .int x6h42)] → W p l e ru_Mo_foretell s m args below meth c H locs 0 0 Q (F0 m 42 ls []) := by
            intro n_42
            induction n_42 with
            | zero => intro s_h42 x2h42 x4h42 x5h42 x6h42 hμ; exact absurd hμ (Nat.not_lt_zero _)
            | succ n_42 ih_42 =>
              intro s_h42 x2h42 x4h42 x5h42 x6h42 hμ_42 hJ H locs hP hD hS ls hl
              obtain ⟨K_42, hK_42, h⟩ : ∃ K : St → Int32 → Int32 → Int32 → Int32 → Prop, (∀ z (t0 : Int32) (t1 : Int32) (t2 : Int32) (t3 : Int32), K z t0 t1 t2 t3 → I_42 z t0 t1 t2 t3 ∧ μ_42 z t0 t1 t2 t3 < μ_42 s_h42 x2h42 x4h42 x5h42 x6h42) ∧ wb_Mo_foretell_42 y Post K a0 s_h42 x2h42 x4h42 x5h42 x6h42 := ⟨_, fun _ _ _ _ _ h => h, hB_42 s_h42 x2h42 x4h42 x5h42 x6h42 hJ⟩
              unfold wb_Mo_foretell_42 at h
              refine lv_iload G.1 G.2.1 d_Mo_foretell_42 (lv_at hl 4 rfl) ?_
              refine lv_aload_n G.1 G.2.1 d_Mo_foretell_44 rfl (lv_at hl 0 rfl) ?_
              obtain ⟨b_6, e_7, c_8, h⟩ := h
              refine ugf (v := .ref (ad b_6)) G hP h_a0 iMo rfl 45 (by decide) rfl q3109 rfl (by show va_rf ((sO s_h42 a0 45).map ad) = _; rw [e_7]; rfl) d_Mo_foretell_45 ?_
              refine ugfN (v := .ref (yP y b_6 9)) G hP c_8 iMw rfl 9 (by decide) rfl q2722 rfl rfl d_Mo_foretell_48 ?_
              refine lv_iload_n G.1 G.2.1 d_Mo_foretell_51 rfl (lv_at hl 1 rfl) ?_
              refine uiald G hP (kdp c_8 rfl) (typ c_8 rfl) h d_Mo_foretell_52 (fun x_9 h => ?_)
              refine lv_icmp_ge (tgt := 165) G.1 G.2.1 d_Mo_foretell_53 (by decide) (fun c53 => ?_) (fun c53 => ?_)
              · skip
                have h := h.1 c53
                refine lv_bipush (v := (-2)) G.1 G.2.1 d_Mo_foretell_165 (by decide) ?_
                exact hret _ _ _ _ _ _ _ ls h hP hD hS (Nat.le_refl _) (Nat.le_refl _) d_Mo_foretell_167
              · skip
                have h := h.2 c53
                refine lv_bipush (v := 12) G.1 G.2.1 d_Mo_foretell_56 (by decide) ?_
                refine lv_iload_n G.1 G.2.1 d_Mo_foretell_58 rfl (lv_at hl 1 rfl) ?_
                refine lv_imul G.1 G.2.1 d_Mo_foretell_59 ?_
                refine lv_iload G.1 G.2.1 d_Mo_foretell_60 (lv_at hl 4 rfl) ?_
                refine W.eq (g2 := F0 m 62 ls [.int x6h42, .int (12 * x2h42)]) rfl ?_
                refine lv_iadd G.1 G.2.1 d_Mo_foretell_62 ?_
                refine lv_istore (lv' := [(7, .int ((12 * x2h42) + x6h42)), (0, .ref (ad a0)), (2, .int x2h42), (4, .int x4h42), (5, .int x5h42), (6, .int x6h42)]) G.1 G.2.1 d_Mo_foretell_63 hl (by decide) rfl (fun ls hl => ?_)
                refine lv_iconst (v := 0) G.1 G.2.1 d_Mo_foretell_65 (by decide) ?_
                refine lv_istore (lv' := [(8, .int 0), (7, .int ((12 * x2h42) + x6h42)), (0, .ref (ad a0)), (2, .int x2h42), (4, .int x4h42), (5, .int x5h42), (6, .int x6h42)]) G.1 G.2.1 d_Mo_foretell_66 hl (by decide) rfl (fun ls hl => ?_)
                unfold wl_Mo_foretell_68 at h
                obtain ⟨I_68, μ_68, hI_68, hB_68⟩ := h
                have L_68 : ∀ (n_68 : Nat) (s_h68 : St) (x2h68 : Int32) (x4h68 : Int32) (x5h68 : Int32) (x6h68 : Int32) (x7h68 : Int32) (x8h68 : Int32), μ_68 s_h68 x2h68 x4h68 x5h68 x6h68 x7h68 x8h68 < n_68 → I_68 s_h68 x2h68 x4h68 x5h68 x6h68 x7h68 x8h68 → ∀ (H : Heap) (locs : List Loc), va_P D CL (ws g ad y s_h68) H → va_D A (ws g ad y s_h68) → va_S A s.heap H locs → ∀ ls, lv_has ls 10 [(0, .ref (ad a0)), (2, .int x2h68), (4, .int x4h68), (5, .int x5h68), (6, .int x6h68), (7, .int x7h68), (8, .int x8h68)] → W p l e ru_Mo_foretell s m args below meth c H locs 0 0 Q (F0 m 68 ls []) := by
                  intro n_68
                  induction n_68 with
                  | zero => intro s_h68 x2h68 x4h68 x5h68 x6h68 x7h68 x8h68 hμ; exact absurd hμ (Nat.not_lt_zero _)
                  | succ n_68 ih_68 =>
                    intro s_h68 x2h68 x4h68 x5h68 x6h68 x7h68 x8h68 hμ_68 hJ H locs hP hD hS ls hl
                    obtain ⟨K_68, hK_68, h⟩ : ∃ K : St → Int32 → Int32 → Int32 → Int32 → Int32 → Int32 → Prop, (∀ z (t0 : Int32) (t1 : Int32) (t2 : Int32) (t3 : Int32) (t4 : Int32) (t5 : Int32), K z t0 t1 t2 t3 t4 t5 → I_68 z t0 t1 t2 t3 t4 t5 ∧ μ_68 z t0 t1 t2 t3 t4 t5 < μ_68 s_h68 x2h68 x4h68 x5h68 x6h68 x7h68 x8h68) ∧ wb_Mo_foretell_68 y Post K_42 K a0 s_h68 x2h68 x4h68 x5h68 x6h68 x7h68 x8h68 := ⟨_, fun _ _ _ _ _ _ _ h => h, hB_68 s_h68 x2h68 x4h68 x5h68 x6h68 x7h68 x8h68 hJ⟩
                    unfold wb_Mo_foretell_68 at h
                    refine lv_iload G.1 G.2.1 d_Mo_foretell_68 (lv_at hl 6 rfl) ?_
                    refine lv_aload_n G.1 G.2.1 d_Mo_foretell_70 rfl (lv_at hl 0 rfl) ?_
                    obtain ⟨b_10, e_11, c_12, h⟩ := h
                    refine ugf (v := .ref (ad b_10)) G hP h_a0 iMo rfl 45 (by decide) rfl q3109 rfl (by show va_rf ((sO s_h68 a0 45).map ad) = _; rw [e_11]; rfl) d_Mo_foretell_71 ?_
                    refine ugfN (v := .ref (yP y b_10 24)) G hP c_12 iMw rfl 24 (by decide) rfl q2752 rfl rfl d_Mo_foretell_74 ?_
                    refine lv_iload G.1 G.2.1 d_Mo_foretell_77 (lv_at hl 5 rfl) ?_
                    refine uiald G hP (kdp c_12 rfl) (typ c_12 rfl) h d_Mo_foretell_79 (fun x_13 h => ?_)
                    refine lv_icmp_ge (tgt := 159) G.1 G.2.1 d_Mo_foretell_80 (by decide) (fun c80 => ?_) (fun c80 => ?_)
                    · skip
                      have h := h.1 c80
                      refine lv_iinc (v := x6h68 + 1) (lv' := [(6, .int (x6h68 + 1)), (0, .ref (ad a0)), (2, .int x2h68), (4, .int x4h68), (5, .int x5h68), (7, .int x7h68), (8, .int x8h68)]) G.1 G.2.1 d_Mo_foretell_159 hl (k := 4) rfl rfl (by decide) rfl (fun ls hl => ?_)
                      refine lv_goto (tgt := 42) G.1 G.2.1 d_Mo_foretell_162 (by decide) ?_
                      have h := hK_42 s_h68 x2h68 x4h68 x5h68 (x6h68 + 1) h
                      exact ih_42 s_h68 x2h68 x4h68 x5h68 (x6h68 + 1) (Nat.lt_of_lt_of_le h.2 (Nat.le_of_lt_succ hμ_42)) h.1 H locs hP hD hS ls (lv_sub hl [1, 2, 3, 4, 0] rfl)
                    · skip
                      have h := h.2 c80
                      refine lv_aload_n G.1 G.2.1 d_Mo_foretell_83 rfl (lv_at hl 0 rfl) ?_
                      refine lv_iload G.1 G.2.1 d_Mo_foretell_84 (lv_at hl 5 rfl) ?_
                      refine lv_aload_n G.1 G.2.1 d_Mo_foretell_86 rfl (lv_at hl 0 rfl) ?_
                      refine ugf (v := .ref (ad b_10)) G hP h_a0 iMo rfl 45 (by decide) rfl q3109 rfl (by show va_rf ((sO s_h68 a0 45).map ad) = _; rw [e_11]; rfl) d_Mo_foretell_87 ?_
                      refine W.eq (g2 := F0 m 90 ls [.ref (ad b_10), .int x7h68, .ref (ad a0)]) rfl ?_
                      refine ugfN (v := .ref (yP y b_10 23)) G hP c_12 iMw rfl 23 (by decide) rfl q2750 rfl rfl d_Mo_foretell_90 ?_
                      refine lv_iload G.1 G.2.1 d_Mo_foretell_93 (lv_at hl 5 rfl) ?_
                      refine uiald G hP (kdp c_12 rfl) (typ c_12 rfl) h d_Mo_foretell_95 (fun x_14 h => ?_)
                      refine lv_iload G.1 G.2.1 d_Mo_foretell_96 (lv_at hl 6 rfl) ?_
                      refine lv_iadd G.1 G.2.1 d_Mo_foretell_98 ?_
                      refine ucVi (As := [.int x7h68, .int (x_14 + x8h68)]) (rest := []) G hP hD hS (cu_Mo_foretold l D g ad y _ s_h68 a0 x7h68 (x_14 + x8h68) H.size h_a0 h) w9_Mo_foretold q4157 ⟨Nat.le_of_ble_eq_true rfl, Nat.le_of_ble_eq_true rfl⟩ rfl rfl h_a0 (q := (RMo, TMo, 131)) rfl rfl hl.1 rfl (Nat.le_of_ble_eq_true rfl) rfl ⟨Nat.le_refl _, Nat.le_refl _⟩ d_Mo_foretell_99 (fun r_15 s_16 H locs h hP hD hS => ?_)
                      refine lv_istore (lv' := [(9, .int r_15), (0, .ref (ad a0)), (2, .int x2h68), (4, .int x4h68), (5, .int x5h68), (6, .int x6h68), (7, .int x7h68), (8, .int x8h68)]) G.1 G.2.1 d_Mo_foretell_102 hl (by decide) rfl (fun ls hl => ?_)
                      refine lv_iload G.1 G.2.1 d_Mo_foretell_104 (lv_at hl 0 rfl) ?_
                      have J_138 : ∀ (s_j138 : St) (x2j138 : Int32) (x4j138 : Int32) (x5j138 : Int32) (x6j138 : Int32) (x7j138 : Int32) (x8j138 : Int32) (x9j138 : Int32) (H : Heap) (locs : List Loc), wj_Mo_foretell_138 y Post K_42 K_68 a0 s_j138 x2j138 x4j138 x5j138 x6j138 x7j138 x8j138 x9j138 → va_P D CL (ws g ad y s_j138) H → va_D A (ws g ad y s_j138) → va_S A s.heap H locs → ∀ ls, lv_has ls 10 [(0, .ref (ad a0)), (2, .int x2j138), (4, .int x4j138), (5, .int x5j138), (6, .int x6j138), (7, .int x7j138), (8, .int x8j138), (9, .int x9j138)] → W p l e ru_Mo_foretell s m args below meth c H locs 0 0 Q (F0 m 138 ls []) := by
                        intro s_j138 x2j138 x4j138 x5j138 x6j138 x7j138 x8j138 x9j138 H locs h hP hD hS ls hl
                        unfold wj_Mo_foretell_138 at h
                        refine lv_iload G.1 G.2.1 d_Mo_foretell_138 (lv_at hl 3 rfl) ?_
                        refine lv_iload G.1 G.2.1 d_Mo_foretell_140 (lv_at hl 7 rfl) ?_
                        have J_150 : ∀ (s_j150 : St) (x2j150 : Int32) (x4j150 : Int32) (x6j150 : Int32) (x7j150 : Int32) (x8j150 : Int32) (z0j150 : Int32) (z1j150 : Int32) (H : Heap) (locs : List Loc), wj_Mo_foretell_150 y Post K_42 K_68 a0 s_j150 x2j150 x4j150 x6j150 x7j150 x8j150 z0j150 z1j150 → va_P D CL (ws g ad y s_j150) H → va_D A (ws g ad y s_j150) → va_S A s.heap H locs → ∀ ls, lv_has ls 10 [(0, .ref (ad a0)), (2, .int x2j150), (4, .int x4j150), (6, .int x6j150), (7, .int x7j150), (8, .int x8j150)] → W p l e ru_Mo_foretell s m args below meth c H locs 0 0 Q (F0 m 150 ls [.int z1j150, .int z0j150]) := by
                          intro s_j150 x2j150 x4j150 x6j150 x7j150 x8j150 z0j150 z1j150 H locs h hP hD hS ls hl
                          unfold wj_Mo_foretell_150 at h
                          refine lv_isub G.1 G.2.1 d_Mo_foretell_150 ?_
                          refine lv_istore (lv' := [(5, .int (z0j150 - z1j150)), (0, .ref (ad a0)), (2, .int x2j150), (4, .int x4j150), (6, .int x6j150), (7, .int x7j150), (8, .int x8j150)]) G.1 G.2.1 d_Mo_foretell_151 hl (by decide) rfl (fun ls hl => ?_)
                          refine lv_iinc (v := x8j150 + 1) (lv' := [(8, .int (x8j150 + 1)), (5, .int (z0j150 - z1j150)), (0, .ref (ad a0)), (2, .int x2j150), (4, .int x4j150), (6, .int x6j150), (7, .int x7j150)]) G.1 G.2.1 d_Mo_foretell_153 hl (k := 6) rfl rfl (by decide) rfl (fun ls hl => ?_)
                          refine lv_goto (tgt := 68) G.1 G.2.1 d_Mo_foretell_156 (by decide) ?_
                          have h := hK_68 s_j150 x2j150 x4j150 (z0j150 - z1j150) x6j150 x7j150 (x8j150 + 1) h
                          exact ih_68 s_j150 x2j150 x4j150 (z0j150 - z1j150) x6j150 x7j150 (x8j150 + 1) (Nat.lt_of_lt_of_le h.2 (Nat.le_of_lt_succ hμ_68)) h.1 H locs hP hD hS ls (lv_sub hl [2, 3, 4, 1, 5, 6, 0] rfl)
                        refine lv_if_le (tgt := 149) G.1 G.2.1 d_Mo_foretell_142 (by decide) (fun c142 => ?_) (fun c142 => ?_)
                        · skip
                          have h := h.1 c142
                          refine lv_iconst (v := 0) G.1 G.2.1 d_Mo_foretell_149 (by decide) ?_
                          exact J_150 s_j138 x2j138 x4j138 x6j138 x7j138 x8j138 x5j138 0 H locs h hP hD hS ls (lv_sub hl [0, 1, 2, 4, 5, 6] rfl)
                        · skip
                          have h := h.2 c142
                          refine lv_iconst (v := 1) G.1 G.2.1 d_Mo_foretell_145 (by decide) ?_
                          refine lv_goto (tgt := 150) G.1 G.2.1 d_Mo_foretell_146 (by decide) ?_
                          exact J_150 s_j138 x2j138 x4j138 x6j138 x7j138 x8j138 x5j138 1 H locs h hP hD hS ls (lv_sub hl [0, 1, 2, 4, 5, 6] rfl)
                      refine lv_if_le (tgt := 138) G.1 G.2.1 d_Mo_foretell_106 (by decide) (fun c106 => ?_) (fun c106 => ?_)
                      · skip
                        have h := h.1 c106
                        exact J_138 s_16 x2h68 x4h68 x5h68 x6h68 x7h68 x8h68 r_15 H locs h hP hD hS ls (lv_sub hl [1, 2, 3, 4, 5, 6, 7, 0] rfl)
                      · skip
                        have h := h.2 c106
                        refine lv_iload G.1 G.2.1 d_Mo_foretell_109 (lv_at hl 4 rfl) ?_
                        refine lv_if_ne (tgt := 138) G.1 G.2.1 d_Mo_foretell_111 (by decide) (fun c111 => ?_) (fun c111 => ?_)
                        · skip
                          have h := h.1 c111
                          exact J_138 s_16 x2h68 x4h68 x5h68 x6h68 x7h68 x8h68 r_15 H locs h hP hD hS ls (lv_sub hl [1, 2, 3, 4, 5, 6, 7, 0] rfl)
                        · skip
                          have h := h.2 c111
                          refine lv_iload G.1 G.2.1 d_Mo_foretell_114 (lv_at hl 3 rfl) ?_
                          have J_137 : ∀ (s_j137 : St) (z0j137 : Int32) (H : Heap) (locs : List Loc), wj_Mo_foretell_137 y Post a0 s_j137 z0j137 → va_P D CL (ws g ad y s_j137) H → va_D A (ws g ad y s_j137) → va_S A s.heap H locs → ∀ ls, lv_has ls 10 [] → W p l e ru_Mo_foretell s m args below meth c H locs 0 0 Q (F0 m 137 ls [.int z0j137]) := by
                            intro s_j137 z0j137 H locs h hP hD hS ls hl
                            unfold wj_Mo_foretell_137 at h
                            exact hret _ _ _ _ _ _ _ ls h hP hD hS (Nat.le_refl _) (Nat.le_refl _) d_Mo_foretell_137
                          refine W.eq (g2 := F0 m 116 ls [.int x4h68]) rfl ?_
                          refine lv_if_ne (tgt := 124) G.1 G.2.1 d_Mo_foretell_116 (by decide) (fun c116 => ?_) (fun c116 => ?_)
                          · skip
                            have h := h.1 c116
                            refine lv_iload G.1 G.2.1 d_Mo_foretell_124 (lv_at hl 3 rfl) ?_
                            refine lv_iconst (v := 1) G.1 G.2.1 d_Mo_foretell_126 (by decide) ?_
                            refine lv_icmp_ne (tgt := 135) G.1 G.2.1 d_Mo_foretell_127 (by decide) (fun c127 => ?_) (fun c127 => ?_)
                            · skip
                              have h := h.1 c127
                              refine lv_iload G.1 G.2.1 d_Mo_foretell_135 (lv_at hl 0 rfl) ?_
                              exact J_137 s_16 r_15 H locs h hP hD hS ls (lv_sub hl [] rfl)
                            · skip
                              have h := h.2 c127
                              refine lv_iload G.1 G.2.1 d_Mo_foretell_130 (lv_at hl 7 rfl) ?_
                              refine lv_goto (tgt := 137) G.1 G.2.1 d_Mo_foretell_132 (by decide) ?_
                              exact J_137 s_16 x8h68 H locs h hP hD hS ls (lv_sub hl [] rfl)
                          · skip
                            have h := h.2 c116
                            refine lv_iload G.1 G.2.1 d_Mo_foretell_119 (lv_at hl 5 rfl) ?_
                            refine lv_goto (tgt := 137) G.1 G.2.1 d_Mo_foretell_121 (by decide) ?_
                            exact J_137 s_16 x6h68 H locs h hP hD hS ls (lv_sub hl [] rfl)
                exact L_68 _ s_h42 x2h42 x4h42 x5h42 x6h42 ((12 * x2h42) + x6h42) 0 (Nat.lt_succ_self _) hI_68 H locs hP hD hS ls (lv_sub hl [2, 3, 4, 5, 6, 1, 0] rfl)
          exact L_42 _ s_5 v2 v4 v3 0 (Nat.lt_succ_self _) hI_42 H locs hP hD hS ls (lv_sub hl [2, 4, 6, 1, 0] rfl)
        · skip
          have h := h.2 c21
          exact J_24 s_2 H locs h hP hD hS ls (lv_sub hl [] rfl)
def y_Mo_asked : MethodName := ⟨"ClassWorksModel", "asked", "(II)I"⟩
abbrev b_Mo_asked : ByteArray := prog_14_method_181_code
theorem d_Mo_asked_0 : decode b_Mo_asked 0 = .ok (.aload_n 0, 1) := by decide +kernel
theorem d_Mo_asked_1 : decode b_Mo_asked 1 = .ok (.iload_n 1, 1) := by decide +kernel
theorem d_Mo_asked_2 : decode b_Mo_asked 2 = .ok (.iload_n 2, 1) := by decide +kernel
theorem d_Mo_asked_3 : decode b_Mo_asked 3 = .ok (.invokevirtual 1129, 3) := by decide +kernel
theorem d_Mo_asked_6 : decode b_Mo_asked 6 = .ok (.ifCond .ne 5, 3) := by decide +kernel
theorem d_Mo_asked_9 : decode b_Mo_asked 9 = .ok (.iconst (-1), 1) := by decide +kernel
theorem d_Mo_asked_10 : decode b_Mo_asked 10 = .ok (.ireturn, 1) := by decide +kernel
theorem d_Mo_asked_11 : decode b_Mo_asked 11 = .ok (.aload_n 0, 1) := by decide +kernel
theorem d_Mo_asked_12 : decode b_Mo_asked 12 = .ok (.iconst 1, 1) := by decide +kernel
theorem d_Mo_asked_13 : decode b_Mo_asked 13 = .ok (.invokevirtual 1156, 3) := by decide +kernel
theorem d_Mo_asked_16 : decode b_Mo_asked 16 = .ok (.ifCond .ne 6, 3) := by decide +kernel
theorem d_Mo_asked_19 : decode b_Mo_asked 19 = .ok (.bipush (-11), 2) := by decide +kernel
theorem d_Mo_asked_21 : decode b_Mo_asked 21 = .ok (.ireturn, 1) := by decide +kernel
theorem d_Mo_asked_22 : decode b_Mo_asked 22 = .ok (.aload_n 0, 1) := by decide +kernel
theorem d_Mo_asked_23 : decode b_Mo_asked 23 = .ok (.aload_n 0, 1) := by decide +kernel
theorem d_Mo_asked_24 : decode b_Mo_asked 24 = .ok (.getfield 263, 3) := by decide +kernel
theorem d_Mo_asked_27 : decode b_Mo_asked 27 = .ok (.iload_n 1, 1) := by decide +kernel
theorem d_Mo_asked_28 : decode b_Mo_asked 28 = .ok (.aaload, 1) := by decide +kernel
theorem d_Mo_asked_29 : decode b_Mo_asked 29 = .ok (.putfield 522, 3) := by decide +kernel
theorem d_Mo_asked_32 : decode b_Mo_asked 32 = .ok (.aload_n 0, 1) := by decide +kernel
theorem d_Mo_asked_33 : decode b_Mo_asked 33 = .ok (.bipush 50, 2) := by decide +kernel
theorem d_Mo_asked_35 : decode b_Mo_asked 35 = .ok (.aload_n 0, 1) := by decide +kernel
theorem d_Mo_asked_36 : decode b_Mo_asked 36 = .ok (.getfield 1132, 3) := by decide +kernel
theorem d_Mo_asked_39 : decode b_Mo_asked 39 = .ok (.aload_n 0, 1) := by decide +kernel
theorem d_Mo_asked_40 : decode b_Mo_asked 40 = .ok (.getfield 1147, 3) := by decide +kernel
theorem d_Mo_asked_43 : decode b_Mo_asked 43 = .ok (.aload_n 0, 1) := by decide +kernel
theorem d_Mo_asked_44 : decode b_Mo_asked 44 = .ok (.getfield 1150, 3) := by decide +kernel
theorem d_Mo_asked_47 : decode b_Mo_asked 47 = .ok (.bipush (-3), 2) := by decide +kernel
theorem d_Mo_asked_49 : decode b_Mo_asked 49 = .ok (.invokevirtual 1019, 3) := by decide +kernel
theorem d_Mo_asked_52 : decode b_Mo_asked 52 = .ok (.istore_n 3, 1) := by decide +kernel
theorem d_Mo_asked_53 : decode b_Mo_asked 53 = .ok (.iload_n 3, 1) := by decide +kernel
theorem d_Mo_asked_54 : decode b_Mo_asked 54 = .ok (.ifCond .lt 40, 3) := by decide +kernel
theorem d_Mo_asked_57 : decode b_Mo_asked 57 = .ok (.aload_n 0, 1) := by decide +kernel
theorem d_Mo_asked_58 : decode b_Mo_asked 58 = .ok (.iload_n 2, 1) := by decide +kernel
theorem d_Mo_asked_59 : decode b_Mo_asked 59 = .ok (.invokevirtual 749, 3) := by decide +kernel
theorem d_Mo_asked_62 : decode b_Mo_asked 62 = .ok (.ifCond .ne 32, 3) := by decide +kernel
theorem d_Mo_asked_65 : decode b_Mo_asked 65 = .ok (.aload_n 0, 1) := by decide +kernel
theorem d_Mo_asked_66 : decode b_Mo_asked 66 = .ok (.aload_n 0, 1) := by decide +kernel
theorem d_Mo_asked_67 : decode b_Mo_asked 67 = .ok (.getfield 522, 3) := by decide +kernel
theorem d_Mo_asked_70 : decode b_Mo_asked 70 = .ok (.getfield 444, 3) := by decide +kernel
theorem d_Mo_asked_73 : decode b_Mo_asked 73 = .ok (.iload_n 2, 1) := by decide +kernel
theorem d_Mo_asked_74 : decode b_Mo_asked 74 = .ok (.iaload, 1) := by decide +kernel
theorem d_Mo_asked_75 : decode b_Mo_asked 75 = .ok (.bipush 100, 2) := by decide +kernel
theorem d_Mo_asked_77 : decode b_Mo_asked 77 = .ok (.idiv, 1) := by decide +kernel
theorem d_Mo_asked_78 : decode b_Mo_asked 78 = .ok (.aload_n 0, 1) := by decide +kernel
theorem d_Mo_asked_79 : decode b_Mo_asked 79 = .ok (.getfield 522, 3) := by decide +kernel
theorem d_Mo_asked_82 : decode b_Mo_asked 82 = .ok (.getfield 444, 3) := by decide +kernel
theorem d_Mo_asked_85 : decode b_Mo_asked 85 = .ok (.iload_n 2, 1) := by decide +kernel
theorem d_Mo_asked_86 : decode b_Mo_asked 86 = .ok (.iaload, 1) := by decide +kernel
theorem d_Mo_asked_87 : decode b_Mo_asked 87 = .ok (.bipush 100, 2) := by decide +kernel
theorem d_Mo_asked_89 : decode b_Mo_asked 89 = .ok (.irem, 1) := by decide +kernel
theorem d_Mo_asked_90 : decode b_Mo_asked 90 = .ok (.invokevirtual 850, 3) := by decide +kernel
theorem d_Mo_asked_93 : decode b_Mo_asked 93 = .ok (.istore_n 3, 1) := by decide +kernel
theorem d_Mo_asked_94 : decode b_Mo_asked 94 = .ok (.iload_n 3, 1) := by decide +kernel
theorem d_Mo_asked_95 : decode b_Mo_asked 95 = .ok (.ifCond .lt 31, 3) := by decide +kernel
theorem d_Mo_asked_98 : decode b_Mo_asked 98 = .ok (.aload_n 0, 1) := by decide +kernel
theorem d_Mo_asked_99 : decode b_Mo_asked 99 = .ok (.getfield 522, 3) := by decide +kernel
theorem d_Mo_asked_102 : decode b_Mo_asked 102 = .ok (.getfield 453, 3) := by decide +kernel
theorem d_Mo_asked_105 : decode b_Mo_asked 105 = .ok (.iload_n 3, 1) := by decide +kernel
theorem d_Mo_asked_106 : decode b_Mo_asked 106 = .ok (.iaload, 1) := by decide +kernel
theorem d_Mo_asked_107 : decode b_Mo_asked 107 = .ok (.iconst 4, 1) := by decide +kernel
theorem d_Mo_asked_108 : decode b_Mo_asked 108 = .ok (.iand, 1) := by decide +kernel
theorem d_Mo_asked_109 : decode b_Mo_asked 109 = .ok (.ifCond .ne 17, 3) := by decide +kernel
theorem d_Mo_asked_112 : decode b_Mo_asked 112 = .ok (.aload_n 0, 1) := by decide +kernel
theorem d_Mo_asked_113 : decode b_Mo_asked 113 = .ok (.iload_n 2, 1) := by decide +kernel
theorem d_Mo_asked_114 : decode b_Mo_asked 114 = .ok (.aload_n 0, 1) := by decide +kernel
theorem d_Mo_asked_115 : decode b_Mo_asked 115 = .ok (.getfield 1147, 3) := by decide +kernel
theorem d_Mo_asked_118 : decode b_Mo_asked 118 = .ok (.aload_n 0, 1) := by decide +kernel
theorem d_Mo_asked_119 : decode b_Mo_asked 119 = .ok (.getfield 1150, 3) := by decide +kernel
theorem d_Mo_asked_122 : decode b_Mo_asked 122 = .ok (.invokevirtual 1096, 3) := by decide +kernel
theorem d_Mo_asked_125 : decode b_Mo_asked 125 = .ok (.istore_n 3, 1) := by decide +kernel
theorem d_Mo_asked_126 : decode b_Mo_asked 126 = .ok (.iload_n 3, 1) := by decide +kernel
theorem d_Mo_asked_127 : decode b_Mo_asked 127 = .ok (.ifCond .ge 13, 3) := by decide +kernel
theorem d_Mo_asked_130 : decode b_Mo_asked 130 = .ok (.bipush (-100), 2) := by decide +kernel
theorem d_Mo_asked_132 : decode b_Mo_asked 132 = .ok (.aload_n 0, 1) := by decide +kernel
theorem d_Mo_asked_133 : decode b_Mo_asked 133 = .ok (.getfield 844, 3) := by decide +kernel
theorem d_Mo_asked_136 : decode b_Mo_asked 136 = .ok (.isub, 1) := by decide +kernel
theorem d_Mo_asked_137 : decode b_Mo_asked 137 = .ok (.goto 15, 3) := by decide +kernel
theorem d_Mo_asked_140 : decode b_Mo_asked 140 = .ok (.bipush 100, 2) := by decide +kernel
theorem d_Mo_asked_142 : decode b_Mo_asked 142 = .ok (.iload_n 3, 1) := by decide +kernel
theorem d_Mo_asked_143 : decode b_Mo_asked 143 = .ok (.bipush 12, 2) := by decide +kernel
theorem d_Mo_asked_145 : decode b_Mo_asked 145 = .ok (.idiv, 1) := by decide +kernel
theorem d_Mo_asked_146 : decode b_Mo_asked 146 = .ok (.imul, 1) := by decide +kernel
theorem d_Mo_asked_147 : decode b_Mo_asked 147 = .ok (.iload_n 3, 1) := by decide +kernel
theorem d_Mo_asked_148 : decode b_Mo_asked 148 = .ok (.bipush 12, 2) := by decide +kernel
theorem d_Mo_asked_150 : decode b_Mo_asked 150 = .ok (.irem, 1) := by decide +kernel
theorem d_Mo_asked_151 : decode b_Mo_asked 151 = .ok (.iadd, 1) := by decide +kernel
theorem d_Mo_asked_152 : decode b_Mo_asked 152 = .ok (.ireturn, 1) := by decide +kernel
abbrev ra_Mo_asked (mc ms : Nat) : Room := { frames := 471, cells := mc, slots := ms, locals := 11461 }
def wja_Mo_asked_152 (mc ms : Nat) (Post : Ly → St → Int32 → Nat → Nat → Prop) (a0 : Nat) (y_j152 : Ly) (s_j152 : St) (d_j152 e_j152 : Nat) (z0j152 : Int32) : Prop := (d_j152 ≤ mc ∧ e_j152 ≤ ms) ∧ Post y_j152 s_j152 z0j152 d_j152 e_j152
def wja_Mo_asked_126 (mc ms : Nat) (Post : Ly → St → Int32 → Nat → Nat → Prop) (a0 : Nat) (y_j126 : Ly) (s_j126 : St) (d_j126 e_j126 : Nat) (x3j126 : Int32) : Prop := (d_j126 ≤ mc ∧ e_j126 ≤ ms) ∧ ((0 ≤ x3j126 → wja_Mo_asked_152 mc ms Post a0 y_j126 s_j126 d_j126 e_j126 ((100 * (x3j126 / 12)) + (x3j126 - x3j126 / 12 * 12))) ∧ (¬ (0 ≤ x3j126) → wja_Mo_asked_152 mc ms Post a0 y_j126 s_j126 d_j126 e_j126 ((-100) - (sV s_j126 a0 81))))
def wja_Mo_asked_94 (mc ms : Nat) (Post : Ly → St → Int32 → Nat → Nat → Prop) (a0 : Nat) (y_j94 : Ly) (s_j94 : St) (d_j94 e_j94 : Nat) (x2j94 : Int32) (x3j94 : Int32) : Prop := (d_j94 ≤ mc ∧ e_j94 ≤ ms) ∧ ((x3j94 < 0 → wja_Mo_asked_126 mc ms Post a0 y_j94 s_j94 d_j94 e_j94 x3j94) ∧ (¬ (x3j94 < 0) → ∃ b_16 : Nat, sO s_j94 a0 45 = some b_16 ∧ cl b_16 = 13 ∧ xA y_j94 s_j94 b_16 20 x3j94 (fun x_19 : Int32 => ((¬ (x_19 &&& 4) = 0 → wja_Mo_asked_126 mc ms Post a0 y_j94 s_j94 d_j94 e_j94 x3j94) ∧ ((x_19 &&& 4) = 0 → wu_Mo_dispatch y_j94 (fun (s_21 : St) (r_20 : Int32) => wja_Mo_asked_126 mc ms Post a0 y_j94 s_21 d_j94 e_j94 r_20) s_j94 a0 x2j94 (sV s_j94 a0 91) (sV s_j94 a0 92))))))
def wa_Mo_asked (mc ms : Nat) (y : Ly) (Post : Ly → St → Int32 → Nat → Nat → Prop) (σ : St) (a0 : Nat) (v1 : Int32) (v2 : Int32) : Prop := wu_Mo_isClass y (fun (s_2 : St) (r_1 : Int32) => ((¬ r_1 = 0 → ∃ mc_8 ms_9 : Nat, (0 + mc_8 ≤ mc ∧ 0 + ms_9 ≤ ms) ∧ wa_Mo_takesLine mc_8 ms_9 y (fun (y_5 : Ly) (s_4 : St) (r_3 : Int32) (d_6 e_7 : Nat) => (0 + d_6 ≤ mc ∧ 0 + e_7 ≤ ms) ∧ ((¬ r_3 = 0 → xQ y_5 a0 44 v1 (fun b_11 : Nat => xP (uO s_4 a0 45 (some b_11)) (fun s_13 : St => wu_Mo_findMethod y_5 (fun (s_15 : St) (r_14 : Int32) => ((r_14 < 0 → wja_Mo_asked_94 mc ms Post a0 y_5 s_15 (0 + d_6) (0 + e_7) v2 r_14) ∧ (¬ (r_14 < 0) → wu_Mo_isLinked y_5 (fun (s_23 : St) (r_22 : Int32) => ((¬ r_22 = 0 → wja_Mo_asked_94 mc ms Post a0 y_5 s_23 (0 + d_6) (0 + e_7) v2 r_14) ∧ (r_22 = 0 → ∃ b_24 : Nat, sO s_23 a0 45 = some b_24 ∧ cl b_24 = 13 ∧ xA y_5 s_23 b_24 11 v2 (fun x_27 : Int32 => xA y_5 s_23 b_24 11 v2 (fun x_28 : Int32 => wu_Mo_fails y_5 (fun (s_30 : St) (r_29 : Int32) => wja_Mo_asked_94 mc ms Post a0 y_5 s_30 (0 + d_6) (0 + e_7) v2 r_29) s_23 a0 (x_27 / 100) (x_28 - x_28 / 100 * 100)))))) s_15 a0 v2))) s_13 a0 50 (sV s_13 a0 88) (sV s_13 a0 91) (sV s_13 a0 92) (-3)))) ∧ (r_3 = 0 → Post y_5 s_4 (-11) (0 + d_6) (0 + e_7)))) s_2 a0 1) ∧ (r_1 = 0 → Post y s_2 (-1) 0 0))) σ a0 v1 v2
set_option maxHeartbeats 4000000 in
set_option maxRecDepth 100000 in
theorem ca_Mo_asked (l : Launch) (D : va_G) (g : Nat → ClassId) (ad : Nat → Nat) (mc ms : Nat) (y : Ly) (Post : Ly → St → Int32 → Nat → Nat → Prop) (σ : St) (a0 : Nat) (v1 : Int32) (v2 : Int32) (sz uz : Nat) (h_a0 : cl a0 = 14) (h : wa_Mo_asked mc ms y Post σ a0 v1 v2) : Met l y_Mo_asked (mw y_Mo_asked b_Mo_asked 4 (some .int)) (ra_Mo_asked mc ms) (PCu g D [] [.ref (ad a0), .int v1, .int v2] sz uz (ws g ad y σ)) (va_Qi (fun (r : Int32) (u : Ly × St × Nat × Nat) => Post u.1 u.2.1 r u.2.2.1 u.2.2.2) (QU D (va_A (ws g ad y σ) sz) (fun u => ws g ad u.1 u.2.1) sz uz (fun u => u.2.2.1) (fun u => u.2.2.2)) (va_A (ws g ad y σ) sz)) mc ms (va_A (ws g ad y σ) sz) := by
  refine ofIu (by decide +kernel) (Nat.le_of_ble_eq_true rfl) ?_
  intro p e s m args below meth c A Q ls H locs G hsz hP hD hS hl hret
  subst hsz
  have hl : lv_has ls 4 [(0, .ref (ad a0)), (1, .int v1), (2, .int v2)] := hl
  have hd : 0 ≤ mc ∧ 0 ≤ ms := ⟨Nat.zero_le _, Nat.zero_le _⟩
  unfold wa_Mo_asked at h
  refine lv_aload_n G.1 G.2.1 d_Mo_asked_0 rfl (lv_at hl 0 rfl) ?_
  refine lv_iload_n G.1 G.2.1 d_Mo_asked_1 rfl (lv_at hl 1 rfl) ?_
  refine lv_iload_n G.1 G.2.1 d_Mo_asked_2 rfl (lv_at hl 2 rfl) ?_
  refine ucVi (As := [.int v1, .int v2]) (rest := []) G hP hD hS (cu_Mo_isClass l D g ad y _ σ a0 v1 v2 H.size h_a0 h) w9_Mo_isClass q3661 ⟨Nat.le_of_ble_eq_true rfl, Nat.le_of_ble_eq_true rfl⟩ rfl rfl h_a0 (q := (RMo, TMo, 131)) rfl rfl hl.1 rfl (Nat.le_of_ble_eq_true rfl) rfl hd d_Mo_asked_3 (fun r_1 s_2 H locs h hP hD hS => ?_)
  refine lv_if_ne (tgt := 11) G.1 G.2.1 d_Mo_asked_6 (by decide) (fun c6 => ?_) (fun c6 => ?_)
  · skip
    have h := h.1 c6
    refine lv_aload_n G.1 G.2.1 d_Mo_asked_11 rfl (lv_at hl 0 rfl) ?_
    refine lv_iconst (v := 1) G.1 G.2.1 d_Mo_asked_12 (by decide) ?_
    obtain ⟨mc_8, ms_9, hr_10, h⟩ := h
    refine uwVi (As := [.int 1]) (rest := []) G hP hD hS (ca_Mo_takesLine l D g ad mc_8 ms_9 y _ s_2 a0 1 H.size (us H) h_a0 h) (fun _ h => absurd h List.not_mem_nil) w9_Mo_takesLine q3798 ⟨Nat.le_of_ble_eq_true rfl, Nat.le_of_ble_eq_true rfl⟩ rfl rfl h_a0 (q := (RMo, TMo, 131)) rfl rfl hl.1 rfl (Nat.le_of_ble_eq_true rfl) rfl hr_10 d_Mo_asked_13 (fun r_3 y_5 s_4 d_6 e_7 H locs h hP hD hS => ?_)
    obtain ⟨hd, h⟩ := h
    refine lv_if_ne (tgt := 22) G.1 G.2.1 d_Mo_asked_16 (by decide) (fun c16 => ?_) (fun c16 => ?_)
    · skip
      have h := h.1 c16
      refine lv_aload_n G.1 G.2.1 d_Mo_asked_22 rfl (lv_at hl 0 rfl) ?_
      refine lv_aload_n G.1 G.2.1 d_Mo_asked_23 rfl (lv_at hl 0 rfl) ?_
      refine W.eq (g2 := F0 m 24 ls [.ref (ad a0), .ref (ad a0)]) rfl ?_
      refine ugf (v := .ref (yP y_5 a0 44)) G hP h_a0 iMo rfl 44 (by decide) rfl q3108 rfl rfl d_Mo_asked_24 ?_
      refine lv_iload_n G.1 G.2.1 d_Mo_asked_27 rfl (lv_at hl 1 rfl) ?_
      refine uqald G hP (kdp h_a0 rfl) (typ h_a0 rfl) rfl h d_Mo_asked_28 (fun b_11 n_12 h => ?_)
      refine upf G hP hD hS h 45 putO h_a0 iMo tMo tMo_ok nMo rfl (by decide) rfl q3109 rfl rfl fO rfl rfl d_Mo_asked_29 (fun s_13 H locs h hP hD hS => ?_)
      refine lv_aload_n G.1 G.2.1 d_Mo_asked_32 rfl (lv_at hl 0 rfl) ?_
      refine lv_bipush (v := 50) G.1 G.2.1 d_Mo_asked_33 (by decide) ?_
      refine lv_aload_n G.1 G.2.1 d_Mo_asked_35 rfl (lv_at hl 0 rfl) ?_
      refine ugf (v := .int (sV s_13 a0 88)) G hP h_a0 iMo rfl 88 (by decide) rfl q3152 rfl rfl d_Mo_asked_36 ?_
      refine lv_aload_n G.1 G.2.1 d_Mo_asked_39 rfl (lv_at hl 0 rfl) ?_
      refine ugf (v := .int (sV s_13 a0 91)) G hP h_a0 iMo rfl 91 (by decide) rfl q3155 rfl rfl d_Mo_asked_40 ?_
      refine lv_aload_n G.1 G.2.1 d_Mo_asked_43 rfl (lv_at hl 0 rfl) ?_
      refine ugf (v := .int (sV s_13 a0 92)) G hP h_a0 iMo rfl 92 (by decide) rfl q3156 rfl rfl d_Mo_asked_44 ?_
      refine W.eq (g2 := F0 m 47 ls [.int (sV s_13 a0 92), .int (sV s_13 a0 91), .int (sV s_13 a0 88), .int 50, .ref (ad a0)]) rfl ?_
      refine lv_bipush (v := (-3)) G.1 G.2.1 d_Mo_asked_47 (by decide) ?_
      refine ucVi (As := [.int 50, .int (sV s_13 a0 88), .int (sV s_13 a0 91), .int (sV s_13 a0 92), .int (-3)]) (rest := []) G hP hD hS (cu_Mo_findMethod l D g ad y_5 _ s_13 a0 50 (sV s_13 a0 88) (sV s_13 a0 91) (sV s_13 a0 92) (-3) H.size h_a0 h) w9_Mo_findMethod q3851 ⟨Nat.le_of_ble_eq_true rfl, Nat.le_of_ble_eq_true rfl⟩ rfl rfl h_a0 (q := (RMo, TMo, 131)) rfl rfl hl.1 rfl (Nat.le_of_ble_eq_true rfl) rfl hd d_Mo_asked_49 (fun r_14 s_15 H locs h hP hD hS => ?_)
      refine lv_istore_n (lv' := [(3, .int r_14), (0, .ref (ad a0)), (1, .int v1), (2, .int v2)]) G.1 G.2.1 d_Mo_asked_52 rfl hl (by decide) rfl (fun ls hl => ?_)
      refine lv_iload_n G.1 G.2.1 d_Mo_asked_53 rfl (lv_at hl 0 rfl) ?_
      have J_94 : ∀ (y_j94 : Ly) (s_j94 : St) (d_j94 e_j94 : Nat) (x2j94 : Int32) (x3j94 : Int32) (H : Heap) (locs : List Loc), wja_Mo_asked_94 mc ms Post a0 y_j94 s_j94 d_j94 e_j94 x2j94 x3j94 → va_P D CL (ws g ad y_j94 s_j94) H → va_D A (ws g ad y_j94 s_j94) → va_S A s.heap H locs → ∀ ls, lv_has ls 4 [(0, .ref (ad a0)), (2, .int x2j94), (3, .int x3j94)] → W p l e (ra_Mo_asked mc ms) s m args below meth c H locs d_j94 e_j94 Q (F0 m 94 ls []) := by
        intro y_j94 s_j94 d_j94 e_j94 x2j94 x3j94 H locs h hP hD hS ls hl
        unfold wja_Mo_asked_94 at h
        obtain ⟨hd, h⟩ := h
        refine lv_iload_n G.1 G.2.1 d_Mo_asked_94 rfl (lv_at hl 2 rfl) ?_
        have J_126 : ∀ (y_j126 : Ly) (s_j126 : St) (d_j126 e_j126 : Nat) (x3j126 : Int32) (H : Heap) (locs : List Loc), wja_Mo_asked_126 mc ms Post a0 y_j126 s_j126 d_j126 e_j126 x3j126 → va_P D CL (ws g ad y_j126 s_j126) H → va_D A (ws g ad y_j126 s_j126) → va_S A s.heap H locs → ∀ ls, lv_has ls 4 [(0, .ref (ad a0)), (3, .int x3j126)] → W p l e (ra_Mo_asked mc ms) s m args below meth c H locs d_j126 e_j126 Q (F0 m 126 ls []) := by
          intro y_j126 s_j126 d_j126 e_j126 x3j126 H locs h hP hD hS ls hl
          unfold wja_Mo_asked_126 at h
          obtain ⟨hd, h⟩ := h
          refine lv_iload_n G.1 G.2.1 d_Mo_asked_126 rfl (lv_at hl 1 rfl) ?_
          have J_152 : ∀ (y_j152 : Ly) (s_j152 : St) (d_j152 e_j152 : Nat) (z0j152 : Int32) (H : Heap) (locs : List Loc), wja_Mo_asked_152 mc ms Post a0 y_j152 s_j152 d_j152 e_j152 z0j152 → va_P D CL (ws g ad y_j152 s_j152) H → va_D A (ws g ad y_j152 s_j152) → va_S A s.heap H locs → ∀ ls, lv_has ls 4 [] → W p l e (ra_Mo_asked mc ms) s m args below meth c H locs d_j152 e_j152 Q (F0 m 152 ls [.int z0j152]) := by
            intro y_j152 s_j152 d_j152 e_j152 z0j152 H locs h hP hD hS ls hl
            unfold wja_Mo_asked_152 at h
            obtain ⟨hd, h⟩ := h
            exact hret _ (y_j152, s_j152, d_j152, e_j152) _ _ _ _ _ ls h hP hD hS (Nat.le_refl _) (Nat.le_refl _) hd.1 hd.2 d_Mo_asked_152
          refine lv_if_ge (tgt := 140) G.1 G.2.1 d_Mo_asked_127 (by decide) (fun c127 => ?_) (fun c127 => ?_)
          · skip
            have h := h.1 c127
            refine lv_bipush (v := 100) G.1 G.2.1 d_Mo_asked_140 (by decide) ?_
            refine lv_iload_n G.1 G.2.1 d_Mo_asked_142 rfl (lv_at hl 1 rfl) ?_
            refine lv_bipush (v := 12) G.1 G.2.1 d_Mo_asked_143 (by decide) ?_
            refine lv_idiv G.1 G.2.1 d_Mo_asked_145 (by decide) ?_
            refine lv_imul G.1 G.2.1 d_Mo_asked_146 ?_
            refine lv_iload_n G.1 G.2.1 d_Mo_asked_147 rfl (lv_at hl 1 rfl) ?_
            refine lv_bipush (v := 12) G.1 G.2.1 d_Mo_asked_148 (by decide) ?_
            refine lv_irem G.1 G.2.1 d_Mo_asked_150 (by decide) ?_
            refine lv_iadd G.1 G.2.1 d_Mo_asked_151 ?_
            exact J_152 y_j126 s_j126 d_j126 e_j126 ((100 * (x3j126 / 12)) + (x3j126 - x3j126 / 12 * 12)) H locs h hP hD hS ls (lv_sub hl [] rfl)
          · skip
            have h := h.2 c127
            refine lv_bipush (v := (-100)) G.1 G.2.1 d_Mo_asked_130 (by decide) ?_
            refine lv_aload_n G.1 G.2.1 d_Mo_asked_132 rfl (lv_at hl 0 rfl) ?_
            refine ugf (v := .int (sV s_j126 a0 81)) G hP h_a0 iMo rfl 81 (by decide) rfl q3145 rfl rfl d_Mo_asked_133 ?_
            refine lv_isub G.1 G.2.1 d_Mo_asked_136 ?_
            refine lv_goto (tgt := 152) G.1 G.2.1 d_Mo_asked_137 (by decide) ?_
            exact J_152 y_j126 s_j126 d_j126 e_j126 ((-100) - (sV s_j126 a0 81)) H locs h hP hD hS ls (lv_sub hl [] rfl)
        refine lv_if_lt (tgt := 126) G.1 G.2.1 d_Mo_asked_95 (by decide) (fun c95 => ?_) (fun c95 => ?_)
        · skip
          have h := h.1 c95
          exact J_126 y_j94 s_j94 d_j94 e_j94 x3j94 H locs h hP hD hS ls (lv_sub hl [0, 2] rfl)
        · skip
          have h := h.2 c95
          refine lv_aload_n G.1 G.2.1 d_Mo_asked_98 rfl (lv_at hl 0 rfl) ?_
          obtain ⟨b_16, e_17, c_18, h⟩ := h
          refine ugf (v := .ref (ad b_16)) G hP h_a0 iMo rfl 45 (by decide) rfl q3109 rfl (by show va_rf ((sO s_j94 a0 45).map ad) = _; rw [e_17]; rfl) d_Mo_asked_99 ?_
          refine ugfN (v := .ref (yP y_j94 b_16 20)) G hP c_18 iMw rfl 20 (by decide) rfl q2744 rfl rfl d_Mo_asked_102 ?_
          refine lv_iload_n G.1 G.2.1 d_Mo_asked_105 rfl (lv_at hl 2 rfl) ?_
          refine uiald G hP (kdp c_18 rfl) (typ c_18 rfl) h d_Mo_asked_106 (fun x_19 h => ?_)
          refine lv_iconst (v := 4) G.1 G.2.1 d_Mo_asked_107 (by decide) ?_
          refine lv_iand G.1 G.2.1 d_Mo_asked_108 ?_
          refine lv_if_ne (tgt := 126) G.1 G.2.1 d_Mo_asked_109 (by decide) (fun c109 => ?_) (fun c109 => ?_)
          · skip
            have h := h.1 c109
            exact J_126 y_j94 s_j94 d_j94 e_j94 x3j94 H locs h hP hD hS ls (lv_sub hl [0, 2] rfl)
          · skip
            have h := h.2 c109
            refine lv_aload_n G.1 G.2.1 d_Mo_asked_112 rfl (lv_at hl 0 rfl) ?_
            refine W.eq (g2 := F0 m 113 ls [.ref (ad a0)]) rfl ?_
            refine lv_iload_n G.1 G.2.1 d_Mo_asked_113 rfl (lv_at hl 1 rfl) ?_
            refine lv_aload_n G.1 G.2.1 d_Mo_asked_114 rfl (lv_at hl 0 rfl) ?_
            refine ugf (v := .int (sV s_j94 a0 91)) G hP h_a0 iMo rfl 91 (by decide) rfl q3155 rfl rfl d_Mo_asked_115 ?_
            refine lv_aload_n G.1 G.2.1 d_Mo_asked_118 rfl (lv_at hl 0 rfl) ?_
            refine ugf (v := .int (sV s_j94 a0 92)) G hP h_a0 iMo rfl 92 (by decide) rfl q3156 rfl rfl d_Mo_asked_119 ?_
            refine ucVi (As := [.int x2j94, .int (sV s_j94 a0 91), .int (sV s_j94 a0 92)]) (rest := []) G hP hD hS (cu_Mo_dispatch l D g ad y_j94 _ s_j94 a0 x2j94 (sV s_j94 a0 91) (sV s_j94 a0 92) H.size h_a0 h) w9_Mo_dispatch q3967 ⟨Nat.le_of_ble_eq_true rfl, Nat.le_of_ble_eq_true rfl⟩ rfl rfl h_a0 (q := (RMo, TMo, 131)) rfl rfl hl.1 rfl (Nat.le_of_ble_eq_true rfl) rfl hd d_Mo_asked_122 (fun r_20 s_21 H locs h hP hD hS => ?_)
            refine lv_istore_n (lv' := [(3, .int r_20), (0, .ref (ad a0)), (2, .int x2j94)]) G.1 G.2.1 d_Mo_asked_125 rfl hl (by decide) rfl (fun ls hl => ?_)
            exact J_126 y_j94 s_21 d_j94 e_j94 r_20 H locs h hP hD hS ls (lv_sub hl [1, 0] rfl)
      refine lv_if_lt (tgt := 94) G.1 G.2.1 d_Mo_asked_54 (by decide) (fun c54 => ?_) (fun c54 => ?_)
      · skip
        have h := h.1 c54
        exact J_94 y_5 s_15 (0 + d_6) (0 + e_7) v2 r_14 H locs h hP hD hS ls (lv_sub hl [1, 3, 0] rfl)
      · skip
        have h := h.2 c54
        refine lv_aload_n G.1 G.2.1 d_Mo_asked_57 rfl (lv_at hl 1 rfl) ?_
        refine lv_iload_n G.1 G.2.1 d_Mo_asked_58 rfl (lv_at hl 3 rfl) ?_
        refine ucVi (As := [.int v2]) (rest := []) G hP hD hS (cu_Mo_isLinked l D g ad y_5 _ s_15 a0 v2 H.size h_a0 h) w9_Mo_isLinked q3677 ⟨Nat.le_of_ble_eq_true rfl, Nat.le_of_ble_eq_true rfl⟩ rfl rfl h_a0 (q := (RMo, TMo, 131)) rfl rfl hl.1 rfl (Nat.le_of_ble_eq_true rfl) rfl hd d_Mo_asked_59 (fun r_22 s_23 H locs h hP hD hS => ?_)
        refine lv_if_ne (tgt := 94) G.1 G.2.1 d_Mo_asked_62 (by decide) (fun c62 => ?_) (fun c62 => ?_)
        · skip
          have h := h.1 c62
          exact J_94 y_5 s_23 (0 + d_6) (0 + e_7) v2 r_14 H locs h hP hD hS ls (lv_sub hl [1, 3, 0] rfl)
        · skip
          have h := h.2 c62
          refine lv_aload_n G.1 G.2.1 d_Mo_asked_65 rfl (lv_at hl 1 rfl) ?_
          refine lv_aload_n G.1 G.2.1 d_Mo_asked_66 rfl (lv_at hl 1 rfl) ?_
          obtain ⟨b_24, e_25, c_26, h⟩ := h
          refine ugf (v := .ref (ad b_24)) G hP h_a0 iMo rfl 45 (by decide) rfl q3109 rfl (by show va_rf ((sO s_23 a0 45).map ad) = _; rw [e_25]; rfl) d_Mo_asked_67 ?_
          refine W.eq (g2 := F0 m 70 ls [.ref (ad b_24), .ref (ad a0)]) rfl ?_
          refine ugfN (v := .ref (yP y_5 b_24 11)) G hP c_26 iMw rfl 11 (by decide) rfl q2726 rfl rfl d_Mo_asked_70 ?_
          refine lv_iload_n G.1 G.2.1 d_Mo_asked_73 rfl (lv_at hl 3 rfl) ?_
          refine uiald G hP (kdp c_26 rfl) (typ c_26 rfl) h d_Mo_asked_74 (fun x_27 h => ?_)
          refine lv_bipush (v := 100) G.1 G.2.1 d_Mo_asked_75 (by decide) ?_
          refine lv_idiv G.1 G.2.1 d_Mo_asked_77 (by decide) ?_
          refine lv_aload_n G.1 G.2.1 d_Mo_asked_78 rfl (lv_at hl 1 rfl) ?_
          refine ugf (v := .ref (ad b_24)) G hP h_a0 iMo rfl 45 (by decide) rfl q3109 rfl (by show va_rf ((sO s_23 a0 45).map ad) = _; rw [e_25]; rfl) d_Mo_asked_79 ?_
          refine ugfN (v := .ref (yP y_5 b_24 11)) G hP c_26 iMw rfl 11 (by decide) rfl q2726 rfl rfl d_Mo_asked_82 ?_
          refine lv_iload_n G.1 G.2.1 d_Mo_asked_85 rfl (lv_at hl 3 rfl) ?_
          refine uiald G hP (kdp c_26 rfl) (typ c_26 rfl) h d_Mo_asked_86 (fun x_28 h => ?_)
          refine lv_bipush (v := 100) G.1 G.2.1 d_Mo_asked_87 (by decide) ?_
          refine lv_irem G.1 G.2.1 d_Mo_asked_89 (by decide) ?_
          refine W.eq (g2 := F0 m 90 ls [.int (x_28 - x_28 / 100 * 100), .int (x_27 / 100), .ref (ad a0)]) rfl ?_
          refine ucVi (As := [.int (x_27 / 100), .int (x_28 - x_28 / 100 * 100)]) (rest := []) G hP hD hS (cu_Mo_fails l D g ad y_5 _ s_23 a0 (x_27 / 100) (x_28 - x_28 / 100 * 100) H.size h_a0 h) w9_Mo_fails q3859 ⟨Nat.le_of_ble_eq_true rfl, Nat.le_of_ble_eq_true rfl⟩ rfl rfl h_a0 (q := (RMo, TMo, 131)) rfl rfl hl.1 rfl (Nat.le_of_ble_eq_true rfl) rfl hd d_Mo_asked_90 (fun r_29 s_30 H locs h hP hD hS => ?_)
          refine lv_istore_n (lv' := [(3, .int r_29), (0, .ref (ad a0)), (1, .int v1), (2, .int v2)]) G.1 G.2.1 d_Mo_asked_93 rfl hl (by decide) rfl (fun ls hl => ?_)
          exact J_94 y_5 s_30 (0 + d_6) (0 + e_7) v2 r_29 H locs h hP hD hS ls (lv_sub hl [1, 3, 0] rfl)
    · skip
      have h := h.2 c16
      refine lv_bipush (v := (-11)) G.1 G.2.1 d_Mo_asked_19 (by decide) ?_
      exact hret _ (y_5, s_4, 0 + d_6, 0 + e_7) _ _ _ _ _ ls h hP hD hS (Nat.le_refl _) (Nat.le_refl _) hd.1 hd.2 d_Mo_asked_21
  · skip
    have h := h.2 c6
    refine lv_iconst (v := (-1)) G.1 G.2.1 d_Mo_asked_9 (by decide) ?_
    exact hret _ (y, s_2, 0, 0) _ _ _ _ _ ls h hP hD hS (Nat.le_refl _) (Nat.le_refl _) hd.1 hd.2 d_Mo_asked_10
theorem q4173 : Cond.methodLink "ClassWorksModel" 1294 y_Mo_addStarts ∈ lw_ok := lw_okmem (List.mem_of_getElem? (i := 4173) (by decide +kernel)) rfl
theorem q4176 : Cond.code y_Mo_addStarts b_Mo_addStarts 4 (none) ∈ lw_ok := lw_okmem (List.mem_of_getElem? (i := 4176) (by decide +kernel)) rfl
theorem q4175 : Cond.instanceMethod y_Mo_addStarts ∈ lw_ok := lw_okmem (List.mem_of_getElem? (i := 4175) (by decide +kernel)) rfl
theorem q315 : Cond.selects y_Mo_addStarts.cls y_Mo_addStarts y_Mo_addStarts ∈ lw_ok := lw_okmem (List.mem_of_getElem? (i := 315) (by decide +kernel)) rfl
theorem w9_Mo_addStarts : CWv y_Mo_addStarts b_Mo_addStarts 4 (none) 1 ∧ Cond.instanceMethod y_Mo_addStarts ∈ lw_ok ∧ Cond.selects y_Mo_addStarts.cls y_Mo_addStarts y_Mo_addStarts ∈ lw_ok := ⟨⟨q4176, q348, by decide +kernel, by decide +kernel, by decide +kernel⟩, q4175, q315⟩
def y_Mo_reachFrom : MethodName := ⟨"ClassWorksModel", "reachFrom", "(II)V"⟩
abbrev b_Mo_reachFrom : ByteArray := prog_14_method_184_code
theorem d_Mo_reachFrom_0 : decode b_Mo_reachFrom 0 = .ok (.aload_n 0, 1) := by decide +kernel
theorem d_Mo_reachFrom_1 : decode b_Mo_reachFrom 1 = .ok (.getfield 522, 3) := by decide +kernel
theorem d_Mo_reachFrom_4 : decode b_Mo_reachFrom 4 = .ok (.getfield 674, 3) := by decide +kernel
theorem d_Mo_reachFrom_7 : decode b_Mo_reachFrom 7 = .ok (.iload_n 2, 1) := by decide +kernel
theorem d_Mo_reachFrom_8 : decode b_Mo_reachFrom 8 = .ok (.baload, 1) := by decide +kernel
theorem d_Mo_reachFrom_9 : decode b_Mo_reachFrom 9 = .ok (.istore_n 3, 1) := by decide +kernel
theorem d_Mo_reachFrom_10 : decode b_Mo_reachFrom 10 = .ok (.iload_n 3, 1) := by decide +kernel
theorem d_Mo_reachFrom_11 : decode b_Mo_reachFrom 11 = .ok (.bipush 41, 2) := by decide +kernel
theorem d_Mo_reachFrom_13 : decode b_Mo_reachFrom 13 = .ok (.if_icmp .ne 30, 3) := by decide +kernel
theorem d_Mo_reachFrom_16 : decode b_Mo_reachFrom 16 = .ok (.aload_n 0, 1) := by decide +kernel
theorem d_Mo_reachFrom_17 : decode b_Mo_reachFrom 17 = .ok (.iload_n 1, 1) := by decide +kernel
theorem d_Mo_reachFrom_18 : decode b_Mo_reachFrom 18 = .ok (.iload_n 2, 1) := by decide +kernel
theorem d_Mo_reachFrom_19 : decode b_Mo_reachFrom 19 = .ok (.invokevirtual 1285, 3) := by decide +kernel
theorem d_Mo_reachFrom_22 : decode b_Mo_reachFrom 22 = .ok (.ifCond .ne 20, 3) := by decide +kernel
theorem d_Mo_reachFrom_25 : decode b_Mo_reachFrom 25 = .ok (.aload_n 0, 1) := by decide +kernel
theorem d_Mo_reachFrom_26 : decode b_Mo_reachFrom 26 = .ok (.aload_n 0, 1) := by decide +kernel
theorem d_Mo_reachFrom_27 : decode b_Mo_reachFrom 27 = .ok (.aload_n 0, 1) := by decide +kernel
theorem d_Mo_reachFrom_28 : decode b_Mo_reachFrom 28 = .ok (.getfield 522, 3) := by decide +kernel
theorem d_Mo_reachFrom_31 : decode b_Mo_reachFrom 31 = .ok (.getfield 677, 3) := by decide +kernel
theorem d_Mo_reachFrom_34 : decode b_Mo_reachFrom 34 = .ok (.iload_n 2, 1) := by decide +kernel
theorem d_Mo_reachFrom_35 : decode b_Mo_reachFrom 35 = .ok (.iaload, 1) := by decide +kernel
theorem d_Mo_reachFrom_36 : decode b_Mo_reachFrom 36 = .ok (.invokevirtual 601, 3) := by decide +kernel
theorem d_Mo_reachFrom_39 : decode b_Mo_reachFrom 39 = .ok (.invokevirtual 1294, 3) := by decide +kernel
theorem d_Mo_reachFrom_42 : decode b_Mo_reachFrom 42 = .ok (.return_, 1) := by decide +kernel
theorem d_Mo_reachFrom_43 : decode b_Mo_reachFrom 43 = .ok (.iload_n 3, 1) := by decide +kernel
theorem d_Mo_reachFrom_44 : decode b_Mo_reachFrom 44 = .ok (.bipush 48, 2) := by decide +kernel
theorem d_Mo_reachFrom_46 : decode b_Mo_reachFrom 46 = .ok (.if_icmp .eq 9, 3) := by decide +kernel
theorem d_Mo_reachFrom_49 : decode b_Mo_reachFrom 49 = .ok (.iload_n 3, 1) := by decide +kernel
theorem d_Mo_reachFrom_50 : decode b_Mo_reachFrom 50 = .ok (.bipush 49, 2) := by decide +kernel
theorem d_Mo_reachFrom_52 : decode b_Mo_reachFrom 52 = .ok (.if_icmp .ne 27, 3) := by decide +kernel
theorem d_Mo_reachFrom_55 : decode b_Mo_reachFrom 55 = .ok (.aload_n 0, 1) := by decide +kernel
theorem d_Mo_reachFrom_56 : decode b_Mo_reachFrom 56 = .ok (.iload_n 3, 1) := by decide +kernel
theorem d_Mo_reachFrom_57 : decode b_Mo_reachFrom 57 = .ok (.iload_n 2, 1) := by decide +kernel
theorem d_Mo_reachFrom_58 : decode b_Mo_reachFrom 58 = .ok (.iload_n 1, 1) := by decide +kernel
theorem d_Mo_reachFrom_59 : decode b_Mo_reachFrom 59 = .ok (.invokevirtual 1078, 3) := by decide +kernel
theorem d_Mo_reachFrom_62 : decode b_Mo_reachFrom 62 = .ok (.istore 4, 2) := by decide +kernel
theorem d_Mo_reachFrom_64 : decode b_Mo_reachFrom 64 = .ok (.iload 4, 2) := by decide +kernel
theorem d_Mo_reachFrom_66 : decode b_Mo_reachFrom 66 = .ok (.ifCond .lt 12, 3) := by decide +kernel
theorem d_Mo_reachFrom_69 : decode b_Mo_reachFrom 69 = .ok (.aload_n 0, 1) := by decide +kernel
theorem d_Mo_reachFrom_70 : decode b_Mo_reachFrom 70 = .ok (.iload 4, 2) := by decide +kernel
theorem d_Mo_reachFrom_72 : decode b_Mo_reachFrom 72 = .ok (.bipush 8, 2) := by decide +kernel
theorem d_Mo_reachFrom_74 : decode b_Mo_reachFrom 74 = .ok (.idiv, 1) := by decide +kernel
theorem d_Mo_reachFrom_75 : decode b_Mo_reachFrom 75 = .ok (.invokevirtual 1294, 3) := by decide +kernel
theorem d_Mo_reachFrom_78 : decode b_Mo_reachFrom 78 = .ok (.return_, 1) := by decide +kernel
theorem d_Mo_reachFrom_79 : decode b_Mo_reachFrom 79 = .ok (.iload_n 3, 1) := by decide +kernel
theorem d_Mo_reachFrom_80 : decode b_Mo_reachFrom 80 = .ok (.bipush 50, 2) := by decide +kernel
theorem d_Mo_reachFrom_82 : decode b_Mo_reachFrom 82 = .ok (.if_icmp .lt 9, 3) := by decide +kernel
theorem d_Mo_reachFrom_85 : decode b_Mo_reachFrom 85 = .ok (.iload_n 3, 1) := by decide +kernel
theorem d_Mo_reachFrom_86 : decode b_Mo_reachFrom 86 = .ok (.bipush 53, 2) := by decide +kernel
theorem d_Mo_reachFrom_88 : decode b_Mo_reachFrom 88 = .ok (.if_icmp .le 4, 3) := by decide +kernel
theorem d_Mo_reachFrom_91 : decode b_Mo_reachFrom 91 = .ok (.return_, 1) := by decide +kernel
theorem d_Mo_reachFrom_92 : decode b_Mo_reachFrom 92 = .ok (.aload_n 0, 1) := by decide +kernel
theorem d_Mo_reachFrom_93 : decode b_Mo_reachFrom 93 = .ok (.iload_n 3, 1) := by decide +kernel
theorem d_Mo_reachFrom_94 : decode b_Mo_reachFrom 94 = .ok (.aload_n 0, 1) := by decide +kernel
theorem d_Mo_reachFrom_95 : decode b_Mo_reachFrom 95 = .ok (.getfield 522, 3) := by decide +kernel
theorem d_Mo_reachFrom_98 : decode b_Mo_reachFrom 98 = .ok (.getfield 677, 3) := by decide +kernel
theorem d_Mo_reachFrom_101 : decode b_Mo_reachFrom 101 = .ok (.iload_n 2, 1) := by decide +kernel
theorem d_Mo_reachFrom_102 : decode b_Mo_reachFrom 102 = .ok (.iaload, 1) := by decide +kernel
theorem d_Mo_reachFrom_103 : decode b_Mo_reachFrom 103 = .ok (.aload_n 0, 1) := by decide +kernel
theorem d_Mo_reachFrom_104 : decode b_Mo_reachFrom 104 = .ok (.getfield 522, 3) := by decide +kernel
theorem d_Mo_reachFrom_107 : decode b_Mo_reachFrom 107 = .ok (.getfield 680, 3) := by decide +kernel
theorem d_Mo_reachFrom_110 : decode b_Mo_reachFrom 110 = .ok (.iload_n 2, 1) := by decide +kernel
theorem d_Mo_reachFrom_111 : decode b_Mo_reachFrom 111 = .ok (.iaload, 1) := by decide +kernel
theorem d_Mo_reachFrom_112 : decode b_Mo_reachFrom 112 = .ok (.aload_n 0, 1) := by decide +kernel
theorem d_Mo_reachFrom_113 : decode b_Mo_reachFrom 113 = .ok (.getfield 522, 3) := by decide +kernel
theorem d_Mo_reachFrom_116 : decode b_Mo_reachFrom 116 = .ok (.getfield 683, 3) := by decide +kernel
theorem d_Mo_reachFrom_119 : decode b_Mo_reachFrom 119 = .ok (.iload_n 2, 1) := by decide +kernel
theorem d_Mo_reachFrom_120 : decode b_Mo_reachFrom 120 = .ok (.iaload, 1) := by decide +kernel
theorem d_Mo_reachFrom_121 : decode b_Mo_reachFrom 121 = .ok (.iload_n 1, 1) := by decide +kernel
theorem d_Mo_reachFrom_122 : decode b_Mo_reachFrom 122 = .ok (.bipush 12, 2) := by decide +kernel
theorem d_Mo_reachFrom_124 : decode b_Mo_reachFrom 124 = .ok (.idiv, 1) := by decide +kernel
theorem d_Mo_reachFrom_125 : decode b_Mo_reachFrom 125 = .ok (.invokevirtual 1019, 3) := by decide +kernel
theorem d_Mo_reachFrom_128 : decode b_Mo_reachFrom 128 = .ok (.istore 4, 2) := by decide +kernel
theorem d_Mo_reachFrom_130 : decode b_Mo_reachFrom 130 = .ok (.iload 4, 2) := by decide +kernel
theorem d_Mo_reachFrom_132 : decode b_Mo_reachFrom 132 = .ok (.ifCond .ge 4, 3) := by decide +kernel
theorem d_Mo_reachFrom_135 : decode b_Mo_reachFrom 135 = .ok (.return_, 1) := by decide +kernel
theorem d_Mo_reachFrom_136 : decode b_Mo_reachFrom 136 = .ok (.iload_n 3, 1) := by decide +kernel
theorem d_Mo_reachFrom_137 : decode b_Mo_reachFrom 137 = .ok (.bipush 52, 2) := by decide +kernel
theorem d_Mo_reachFrom_139 : decode b_Mo_reachFrom 139 = .ok (.if_icmp .eq 24, 3) := by decide +kernel
theorem d_Mo_reachFrom_142 : decode b_Mo_reachFrom 142 = .ok (.iload_n 3, 1) := by decide +kernel
theorem d_Mo_reachFrom_143 : decode b_Mo_reachFrom 143 = .ok (.bipush 51, 2) := by decide +kernel
theorem d_Mo_reachFrom_145 : decode b_Mo_reachFrom 145 = .ok (.if_icmp .eq 18, 3) := by decide +kernel
theorem d_Mo_reachFrom_148 : decode b_Mo_reachFrom 148 = .ok (.aload_n 0, 1) := by decide +kernel
theorem d_Mo_reachFrom_149 : decode b_Mo_reachFrom 149 = .ok (.getfield 522, 3) := by decide +kernel
theorem d_Mo_reachFrom_152 : decode b_Mo_reachFrom 152 = .ok (.getfield 453, 3) := by decide +kernel
theorem d_Mo_reachFrom_155 : decode b_Mo_reachFrom 155 = .ok (.iload 4, 2) := by decide +kernel
theorem d_Mo_reachFrom_157 : decode b_Mo_reachFrom 157 = .ok (.iaload, 1) := by decide +kernel
theorem d_Mo_reachFrom_158 : decode b_Mo_reachFrom 158 = .ok (.iconst 4, 1) := by decide +kernel
theorem d_Mo_reachFrom_159 : decode b_Mo_reachFrom 159 = .ok (.iand, 1) := by decide +kernel
theorem d_Mo_reachFrom_160 : decode b_Mo_reachFrom 160 = .ok (.ifCond .eq 25, 3) := by decide +kernel
theorem d_Mo_reachFrom_163 : decode b_Mo_reachFrom 163 = .ok (.aload_n 0, 1) := by decide +kernel
theorem d_Mo_reachFrom_164 : decode b_Mo_reachFrom 164 = .ok (.iload 4, 2) := by decide +kernel
theorem d_Mo_reachFrom_166 : decode b_Mo_reachFrom 166 = .ok (.invokevirtual 1291, 3) := by decide +kernel
theorem d_Mo_reachFrom_169 : decode b_Mo_reachFrom 169 = .ok (.iload_n 3, 1) := by decide +kernel
theorem d_Mo_reachFrom_170 : decode b_Mo_reachFrom 170 = .ok (.bipush 52, 2) := by decide +kernel
theorem d_Mo_reachFrom_172 : decode b_Mo_reachFrom 172 = .ok (.if_icmp .ne 12, 3) := by decide +kernel
theorem d_Mo_reachFrom_175 : decode b_Mo_reachFrom 175 = .ok (.aload_n 0, 1) := by decide +kernel
theorem d_Mo_reachFrom_176 : decode b_Mo_reachFrom 176 = .ok (.iload 4, 2) := by decide +kernel
theorem d_Mo_reachFrom_178 : decode b_Mo_reachFrom 178 = .ok (.bipush 12, 2) := by decide +kernel
theorem d_Mo_reachFrom_180 : decode b_Mo_reachFrom 180 = .ok (.idiv, 1) := by decide +kernel
theorem d_Mo_reachFrom_181 : decode b_Mo_reachFrom 181 = .ok (.invokevirtual 1294, 3) := by decide +kernel
theorem d_Mo_reachFrom_184 : decode b_Mo_reachFrom 184 = .ok (.return_, 1) := by decide +kernel
theorem d_Mo_reachFrom_185 : decode b_Mo_reachFrom 185 = .ok (.aload_n 0, 1) := by decide +kernel
theorem d_Mo_reachFrom_186 : decode b_Mo_reachFrom 186 = .ok (.aload_n 0, 1) := by decide +kernel
theorem d_Mo_reachFrom_187 : decode b_Mo_reachFrom 187 = .ok (.getfield 522, 3) := by decide +kernel
theorem d_Mo_reachFrom_190 : decode b_Mo_reachFrom 190 = .ok (.getfield 677, 3) := by decide +kernel
theorem d_Mo_reachFrom_193 : decode b_Mo_reachFrom 193 = .ok (.iload_n 2, 1) := by decide +kernel
theorem d_Mo_reachFrom_194 : decode b_Mo_reachFrom 194 = .ok (.iaload, 1) := by decide +kernel
theorem d_Mo_reachFrom_195 : decode b_Mo_reachFrom 195 = .ok (.invokevirtual 601, 3) := by decide +kernel
theorem d_Mo_reachFrom_198 : decode b_Mo_reachFrom 198 = .ok (.istore 5, 2) := by decide +kernel
theorem d_Mo_reachFrom_200 : decode b_Mo_reachFrom 200 = .ok (.iconst 0, 1) := by decide +kernel
theorem d_Mo_reachFrom_201 : decode b_Mo_reachFrom 201 = .ok (.istore 6, 2) := by decide +kernel
theorem d_Mo_reachFrom_203 : decode b_Mo_reachFrom 203 = .ok (.iload 6, 2) := by decide +kernel
theorem d_Mo_reachFrom_205 : decode b_Mo_reachFrom 205 = .ok (.aload_n 0, 1) := by decide +kernel
theorem d_Mo_reachFrom_206 : decode b_Mo_reachFrom 206 = .ok (.getfield 522, 3) := by decide +kernel
theorem d_Mo_reachFrom_209 : decode b_Mo_reachFrom 209 = .ok (.getfield 420, 3) := by decide +kernel
theorem d_Mo_reachFrom_212 : decode b_Mo_reachFrom 212 = .ok (.if_icmp .ge 82, 3) := by decide +kernel
theorem d_Mo_reachFrom_215 : decode b_Mo_reachFrom 215 = .ok (.aload_n 0, 1) := by decide +kernel
theorem d_Mo_reachFrom_216 : decode b_Mo_reachFrom 216 = .ok (.getfield 522, 3) := by decide +kernel
theorem d_Mo_reachFrom_219 : decode b_Mo_reachFrom 219 = .ok (.getfield 429, 3) := by decide +kernel
theorem d_Mo_reachFrom_222 : decode b_Mo_reachFrom 222 = .ok (.iload 6, 2) := by decide +kernel
theorem d_Mo_reachFrom_224 : decode b_Mo_reachFrom 224 = .ok (.iaload, 1) := by decide +kernel
theorem d_Mo_reachFrom_225 : decode b_Mo_reachFrom 225 = .ok (.bipush 6, 2) := by decide +kernel
theorem d_Mo_reachFrom_227 : decode b_Mo_reachFrom 227 = .ok (.iand, 1) := by decide +kernel
theorem d_Mo_reachFrom_228 : decode b_Mo_reachFrom 228 = .ok (.ifCond .ne 60, 3) := by decide +kernel
theorem d_Mo_reachFrom_231 : decode b_Mo_reachFrom 231 = .ok (.aload_n 0, 1) := by decide +kernel
theorem d_Mo_reachFrom_232 : decode b_Mo_reachFrom 232 = .ok (.iload 6, 2) := by decide +kernel
theorem d_Mo_reachFrom_234 : decode b_Mo_reachFrom 234 = .ok (.iload 5, 2) := by decide +kernel
theorem d_Mo_reachFrom_236 : decode b_Mo_reachFrom 236 = .ok (.invokevirtual 963, 3) := by decide +kernel
theorem d_Mo_reachFrom_239 : decode b_Mo_reachFrom 239 = .ok (.ifCond .eq 49, 3) := by decide +kernel
theorem d_Mo_reachFrom_242 : decode b_Mo_reachFrom 242 = .ok (.aload_n 0, 1) := by decide +kernel
theorem d_Mo_reachFrom_243 : decode b_Mo_reachFrom 243 = .ok (.iload 6, 2) := by decide +kernel
theorem d_Mo_reachFrom_245 : decode b_Mo_reachFrom 245 = .ok (.invokevirtual 749, 3) := by decide +kernel
theorem d_Mo_reachFrom_248 : decode b_Mo_reachFrom 248 = .ok (.ifCond .eq 40, 3) := by decide +kernel
theorem d_Mo_reachFrom_251 : decode b_Mo_reachFrom 251 = .ok (.aload_n 0, 1) := by decide +kernel
theorem d_Mo_reachFrom_252 : decode b_Mo_reachFrom 252 = .ok (.iload 6, 2) := by decide +kernel
theorem d_Mo_reachFrom_254 : decode b_Mo_reachFrom 254 = .ok (.aload_n 0, 1) := by decide +kernel
theorem d_Mo_reachFrom_255 : decode b_Mo_reachFrom 255 = .ok (.getfield 522, 3) := by decide +kernel
theorem d_Mo_reachFrom_258 : decode b_Mo_reachFrom 258 = .ok (.getfield 680, 3) := by decide +kernel
theorem d_Mo_reachFrom_261 : decode b_Mo_reachFrom 261 = .ok (.iload_n 2, 1) := by decide +kernel
theorem d_Mo_reachFrom_262 : decode b_Mo_reachFrom 262 = .ok (.iaload, 1) := by decide +kernel
theorem d_Mo_reachFrom_263 : decode b_Mo_reachFrom 263 = .ok (.aload_n 0, 1) := by decide +kernel
theorem d_Mo_reachFrom_264 : decode b_Mo_reachFrom 264 = .ok (.getfield 522, 3) := by decide +kernel
theorem d_Mo_reachFrom_267 : decode b_Mo_reachFrom 267 = .ok (.getfield 683, 3) := by decide +kernel
theorem d_Mo_reachFrom_270 : decode b_Mo_reachFrom 270 = .ok (.iload_n 2, 1) := by decide +kernel
theorem d_Mo_reachFrom_271 : decode b_Mo_reachFrom 271 = .ok (.iaload, 1) := by decide +kernel
theorem d_Mo_reachFrom_272 : decode b_Mo_reachFrom 272 = .ok (.invokevirtual 1096, 3) := by decide +kernel
theorem d_Mo_reachFrom_275 : decode b_Mo_reachFrom 275 = .ok (.istore 7, 2) := by decide +kernel
theorem d_Mo_reachFrom_277 : decode b_Mo_reachFrom 277 = .ok (.iload 7, 2) := by decide +kernel
theorem d_Mo_reachFrom_279 : decode b_Mo_reachFrom 279 = .ok (.ifCond .lt 9, 3) := by decide +kernel
theorem d_Mo_reachFrom_282 : decode b_Mo_reachFrom 282 = .ok (.aload_n 0, 1) := by decide +kernel
theorem d_Mo_reachFrom_283 : decode b_Mo_reachFrom 283 = .ok (.iload 7, 2) := by decide +kernel
theorem d_Mo_reachFrom_285 : decode b_Mo_reachFrom 285 = .ok (.invokevirtual 1291, 3) := by decide +kernel
theorem d_Mo_reachFrom_288 : decode b_Mo_reachFrom 288 = .ok (.iinc 6 1, 3) := by decide +kernel
theorem d_Mo_reachFrom_291 : decode b_Mo_reachFrom 291 = .ok (.goto (-88), 3) := by decide +kernel
theorem d_Mo_reachFrom_294 : decode b_Mo_reachFrom 294 = .ok (.return_, 1) := by decide +kernel
abbrev ru_Mo_reachFrom : Room := { frames := 472, cells := 0, slots := 0, locals := 11486 }
def wj_Mo_reachFrom_78 (y : Ly) (Post : St → Prop) (a0 : Nat) (s_j78 : St) : Prop := Post s_j78
def wj_Mo_reachFrom_55 (y : Ly) (Post : St → Prop) (a0 : Nat) (s_j55 : St) (x1j55 : Int32) (x2j55 : Int32) (x3j55 : Int32) : Prop := wu_Mo_findField y (fun (s_6 : St) (r_5 : Int32) => ((r_5 < 0 → wj_Mo_reachFrom_78 y Post a0 s_6) ∧ (¬ (r_5 < 0) → wu_Mo_addStarts y (fun (s_8 : St) => wj_Mo_reachFrom_78 y Post a0 s_8) s_6 a0 (r_5 / 8)))) s_j55 a0 x3j55 x2j55 x1j55
def wj_Mo_reachFrom_91 (y : Ly) (Post : St → Prop) (a0 : Nat) (s_j91 : St) : Prop := Post s_j91
def wj_Mo_reachFrom_184 (y : Ly) (Post : St → Prop) (a0 : Nat) (s_j184 : St) : Prop := Post s_j184
def wj_Mo_reachFrom_163 (y : Ly) (Post : St → Prop) (a0 : Nat) (s_j163 : St) (x3j163 : Int32) (x4j163 : Int32) : Prop := wu_Mo_addReached y (fun (s_15 : St) => ((¬ x3j163 = 52 → wj_Mo_reachFrom_184 y Post a0 s_15) ∧ (x3j163 = 52 → wu_Mo_addStarts y (fun (s_17 : St) => wj_Mo_reachFrom_184 y Post a0 s_17) s_15 a0 (x4j163 / 12)))) s_j163 a0 x4j163
def wj_Mo_reachFrom_288 (y : Ly) (Post : St → Prop) (K_203 : St → Int32 → Int32 → Int32 → Prop) (a0 : Nat) (s_j288 : St) (x2j288 : Int32) (x5j288 : Int32) (x6j288 : Int32) : Prop := K_203 s_j288 x2j288 x5j288 (x6j288 + 1)
def wb_Mo_reachFrom_203 (y : Ly) (Post : St → Prop) (K_203 : St → Int32 → Int32 → Int32 → Prop) (a0 : Nat) (s_h203 : St) (x2h203 : Int32) (x5h203 : Int32) (x6h203 : Int32) : Prop := ∃ b_25 : Nat, sO s_h203 a0 45 = some b_25 ∧ cl b_25 = 13 ∧ (((sV s_h203 b_25 2) ≤ x6h203 → Post s_h203) ∧ (¬ ((sV s_h203 b_25 2) ≤ x6h203) → xA y s_h203 b_25 5 x6h203 (fun x_28 : Int32 => ((¬ (x_28 &&& 6) = 0 → wj_Mo_reachFrom_288 y Post K_203 a0 s_h203 x2h203 x5h203 x6h203) ∧ ((x_28 &&& 6) = 0 → wu_Mo_isBelow y (fun (s_30 : St) (r_29 : Int32) => ((r_29 = 0 → wj_Mo_reachFrom_288 y Post K_203 a0 s_30 x2h203 x5h203 x6h203) ∧ (¬ (r_29 = 0) → wu_Mo_isLinked y (fun (s_32 : St) (r_31 : Int32) => ((r_31 = 0 → wj_Mo_reachFrom_288 y Post K_203 a0 s_32 x2h203 x5h203 x6h203) ∧ (¬ (r_31 = 0) → ∃ b_33 : Nat, sO s_32 a0 45 = some b_33 ∧ cl b_33 = 13 ∧ xA y s_32 b_33 32 x2h203 (fun x_36 : Int32 => xA y s_32 b_33 33 x2h203 (fun x_37 : Int32 => wu_Mo_dispatch y (fun (s_39 : St) (r_38 : Int32) => ((r_38 < 0 → wj_Mo_reachFrom_288 y Post K_203 a0 s_39 x2h203 x5h203 x6h203) ∧ (¬ (r_38 < 0) → wu_Mo_addReached y (fun (s_41 : St) => wj_Mo_reachFrom_288 y Post K_203 a0 s_41 x2h203 x5h203 x6h203) s_39 a0 r_38))) s_32 a0 x6h203 x_36 x_37))))) s_30 a0 x6h203))) s_h203 a0 x6h203 x5h203)))))
def wl_Mo_reachFrom_203 (y : Ly) (Post : St → Prop) (a0 : Nat) (s_h203 : St) (x2h203 : Int32) (x5h203 : Int32) (x6h203 : Int32) : Prop := ∃ (I : St → Int32 → Int32 → Int32 → Prop) (μ : St → Int32 → Int32 → Int32 → Nat), I s_h203 x2h203 x5h203 x6h203 ∧ ∀ (u : St) (t0 : Int32) (t1 : Int32) (t2 : Int32), I u t0 t1 t2 → wb_Mo_reachFrom_203 y Post (fun z t0q t1q t2q => I z t0q t1q t2q ∧ μ z t0q t1q t2q < μ u t0 t1 t2) a0 u t0 t1 t2
def wj_Mo_reachFrom_42 (y : Ly) (Post : St → Prop) (a0 : Nat) (s_j42 : St) : Prop := Post s_j42
def wu_Mo_reachFrom (y : Ly) (Post : St → Prop) (σ : St) (a0 : Nat) (v1 : Int32) (v2 : Int32) : Prop := ∃ b_1 : Nat, sO σ a0 45 = some b_1 ∧ cl b_1 = 13 ∧ xA y σ b_1 30 v2 (fun x_4 : Int32 => ((¬ x_4 = 41 → ((x_4 = 48 → wj_Mo_reachFrom_55 y Post a0 σ v1 v2 x_4) ∧ (¬ (x_4 = 48) → ((¬ x_4 = 49 → ((x_4 < 50 → wj_Mo_reachFrom_91 y Post a0 σ) ∧ (¬ (x_4 < 50) → ((x_4 ≤ 53 → xA y σ b_1 31 v2 (fun x_9 : Int32 => xA y σ b_1 32 v2 (fun x_10 : Int32 => xA y σ b_1 33 v2 (fun x_11 : Int32 => wu_Mo_findMethod y (fun (s_13 : St) (r_12 : Int32) => ((0 ≤ r_12 → ((x_4 = 52 → wj_Mo_reachFrom_163 y Post a0 s_13 x_4 r_12) ∧ (¬ (x_4 = 52) → ((x_4 = 51 → wj_Mo_reachFrom_163 y Post a0 s_13 x_4 r_12) ∧ (¬ (x_4 = 51) → ∃ b_18 : Nat, sO s_13 a0 45 = some b_18 ∧ cl b_18 = 13 ∧ xA y s_13 b_18 20 r_12 (fun x_21 : Int32 => (((x_21 &&& 4) = 0 → xA y s_13 b_18 31 v2 (fun x_22 : Int32 => wu_Mo_classOf y (fun (s_24 : St) (r_23 : Int32) => wl_Mo_reachFrom_203 y Post a0 s_24 v2 r_23 0) s_13 a0 x_22)) ∧ (¬ ((x_21 &&& 4) = 0) → wj_Mo_reachFrom_163 y Post a0 s_13 x_4 r_12)))))))) ∧ (¬ (0 ≤ r_12) → Post s_13))) σ a0 x_4 x_9 x_10 x_11 (v1 / 12))))) ∧ (¬ (x_4 ≤ 53) → wj_Mo_reachFrom_91 y Post a0 σ))))) ∧ (x_4 = 49 → wj_Mo_reachFrom_55 y Post a0 σ v1 v2 x_4))))) ∧ (x_4 = 41 → wu_Mo_foretold y (fun (s_43 : St) (r_42 : Int32) => ((¬ r_42 = 0 → wj_Mo_reachFrom_42 y Post a0 s_43) ∧ (r_42 = 0 → ∃ b_44 : Nat, sO s_43 a0 45 = some b_44 ∧ cl b_44 = 13 ∧ xA y s_43 b_44 31 v2 (fun x_47 : Int32 => wu_Mo_classOf y (fun (s_49 : St) (r_48 : Int32) => wu_Mo_addStarts y (fun (s_51 : St) => wj_Mo_reachFrom_42 y Post a0 s_51) s_49 a0 r_48) s_43 a0 x_47)))) σ a0 v1 v2)))
set_option maxHeartbeats 4000000 in
set_option maxRecDepth 100000 in
theorem cu_Mo_reachFrom (l : Launch) (D : va_G) (g : Nat → ClassId) (ad : Nat → Nat) (y : Ly) (Post : St → Prop) (σ : St) (a0 : Nat) (v1 : Int32) (v2 : Int32) (sz : Nat) (h_a0 : cl a0 = 14) (h : wu_Mo_reachFrom y Post σ a0 v1 v2) : Met l y_Mo_reachFrom (mw y_Mo_reachFrom b_Mo_reachFrom 8 (none)) ru_Mo_reachFrom (PC g D [] [.ref (ad a0), .int v1, .int v2] sz (ws g ad y σ)) (va_Qv (fun u : St => Post u) (QW D (va_A (ws g ad y σ) sz) (fun u => ws g ad y u)) (va_A (ws g ad y σ) sz)) 0 0 (va_A (ws g ad y σ) sz) := by
  refine ofV (by decide +kernel) (Nat.le_of_ble_eq_true rfl) ?_
  intro p e s m args below meth c A Q ls H locs G hsz hP hD hS hl hret
  subst hsz
  have hl : lv_has ls 8 [(0, .ref (ad a0)), (1, .int v1), (2, .int v2)] := hl
  unfold wu_Mo_reachFrom at h
  refine lv_aload_n G.1 G.2.1 d_Mo_reachFrom_0 rfl (lv_at hl 0 rfl) ?_
  obtain ⟨b_1, e_2, c_3, h⟩ := h
  refine ugf (v := .ref (ad b_1)) G hP h_a0 iMo rfl 45 (by decide) rfl q3109 rfl (by show va_rf ((sO σ a0 45).map ad) = _; rw [e_2]; rfl) d_Mo_reachFrom_1 ?_
  refine ugfN (v := .ref (yP y b_1 30)) G hP c_3 iMw rfl 30 (by decide) rfl q2764 rfl rfl d_Mo_reachFrom_4 ?_
  refine lv_iload_n G.1 G.2.1 d_Mo_reachFrom_7 rfl (lv_at hl 2 rfl) ?_
  refine ubald G hP (kdp c_3 rfl) (typ c_3 rfl) h d_Mo_reachFrom_8 (fun x_4 h => ?_)
  refine lv_istore_n (lv' := [(3, .int x_4), (0, .ref (ad a0)), (1, .int v1), (2, .int v2)]) G.1 G.2.1 d_Mo_reachFrom_9 rfl hl (by decide) rfl (fun ls hl => ?_)
  refine lv_iload_n G.1 G.2.1 d_Mo_reachFrom_10 rfl (lv_at hl 0 rfl) ?_
  refine lv_bipush (v := 41) G.1 G.2.1 d_Mo_reachFrom_11 (by decide) ?_
  refine lv_icmp_ne (tgt := 43) G.1 G.2.1 d_Mo_reachFrom_13 (by decide) (fun c13 => ?_) (fun c13 => ?_)
  · skip
    have h := h.1 c13
    refine lv_iload_n G.1 G.2.1 d_Mo_reachFrom_43 rfl (lv_at hl 0 rfl) ?_
    refine lv_bipush (v := 48) G.1 G.2.1 d_Mo_reachFrom_44 (by decide) ?_
    have J_55 : ∀ (s_j55 : St) (x1j55 : Int32) (x2j55 : Int32) (x3j55 : Int32) (H : Heap) (locs : List Loc), wj_Mo_reachFrom_55 y Post a0 s_j55 x1j55 x2j55 x3j55 → va_P D CL (ws g ad y s_j55) H → va_D A (ws g ad y s_j55) → va_S A s.heap H locs → ∀ ls, lv_has ls 8 [(0, .ref (ad a0)), (1, .int x1j55), (2, .int x2j55), (3, .int x3j55)] → W p l e ru_Mo_reachFrom s m args below meth c H locs 0 0 Q (F0 m 55 ls []) := by
      intro s_j55 x1j55 x2j55 x3j55 H locs h hP hD hS ls hl
      unfold wj_Mo_reachFrom_55 at h
      refine lv_aload_n G.1 G.2.1 d_Mo_reachFrom_55 rfl (lv_at hl 0 rfl) ?_
      refine lv_iload_n G.1 G.2.1 d_Mo_reachFrom_56 rfl (lv_at hl 3 rfl) ?_
      refine lv_iload_n G.1 G.2.1 d_Mo_reachFrom_57 rfl (lv_at hl 2 rfl) ?_
      refine lv_iload_n G.1 G.2.1 d_Mo_reachFrom_58 rfl (lv_at hl 1 rfl) ?_
      refine ucVi (As := [.int x3j55, .int x2j55, .int x1j55]) (rest := []) G hP hD hS (cu_Mo_findField l D g ad y _ s_j55 a0 x3j55 x2j55 x1j55 H.size h_a0 h) w9_Mo_findField q3931 ⟨Nat.le_of_ble_eq_true rfl, Nat.le_of_ble_eq_true rfl⟩ rfl rfl h_a0 (q := (RMo, TMo, 131)) rfl rfl hl.1 rfl (Nat.le_of_ble_eq_true rfl) rfl ⟨Nat.le_refl _, Nat.le_refl _⟩ d_Mo_reachFrom_59 (fun r_5 s_6 H locs h hP hD hS => ?_)
      refine lv_istore (lv' := [(4, .int r_5), (0, .ref (ad a0)), (1, .int x1j55), (2, .int x2j55), (3, .int x3j55)]) G.1 G.2.1 d_Mo_reachFrom_62 hl (by decide) rfl (fun ls hl => ?_)
      refine lv_iload G.1 G.2.1 d_Mo_reachFrom_64 (lv_at hl 0 rfl) ?_
      have J_78 : ∀ (s_j78 : St) (H : Heap) (locs : List Loc), wj_Mo_reachFrom_78 y Post a0 s_j78 → va_P D CL (ws g ad y s_j78) H → va_D A (ws g ad y s_j78) → va_S A s.heap H locs → ∀ ls, lv_has ls 8 [] → W p l e ru_Mo_reachFrom s m args below meth c H locs 0 0 Q (F0 m 78 ls []) := by
        intro s_j78 H locs h hP hD hS ls hl
        unfold wj_Mo_reachFrom_78 at h
        exact hret _ _ _ _ _ _ ls h hP hD hS (Nat.le_refl _) (Nat.le_refl _) d_Mo_reachFrom_78
      refine lv_if_lt (tgt := 78) G.1 G.2.1 d_Mo_reachFrom_66 (by decide) (fun c66 => ?_) (fun c66 => ?_)
      · skip
        have h := h.1 c66
        exact J_78 s_6 H locs h hP hD hS ls (lv_sub hl [] rfl)
      · skip
        have h := h.2 c66
        refine lv_aload_n G.1 G.2.1 d_Mo_reachFrom_69 rfl (lv_at hl 1 rfl) ?_
        refine lv_iload G.1 G.2.1 d_Mo_reachFrom_70 (lv_at hl 0 rfl) ?_
        refine lv_bipush (v := 8) G.1 G.2.1 d_Mo_reachFrom_72 (by decide) ?_
        refine W.eq (g2 := F0 m 74 ls [.int 8, .int r_5, .ref (ad a0)]) rfl ?_
        refine lv_idiv G.1 G.2.1 d_Mo_reachFrom_74 (by decide) ?_
        refine ucVv (As := [.int (r_5 / 8)]) (rest := []) G hP hD hS (cu_Mo_addStarts l D g ad y _ s_6 a0 (r_5 / 8) H.size h_a0 h) w9_Mo_addStarts q4173 ⟨Nat.le_of_ble_eq_true rfl, Nat.le_of_ble_eq_true rfl⟩ rfl rfl h_a0 (q := (RMo, TMo, 131)) rfl rfl hl.1 rfl (Nat.le_of_ble_eq_true rfl) rfl ⟨Nat.le_refl _, Nat.le_refl _⟩ d_Mo_reachFrom_75 (fun s_8 H locs h hP hD hS => ?_)
        exact J_78 s_8 H locs h hP hD hS ls (lv_sub hl [] rfl)
    refine W.eq (g2 := F0 m 46 ls [.int 48, .int x_4]) rfl ?_
    refine lv_icmp_eq (tgt := 55) G.1 G.2.1 d_Mo_reachFrom_46 (by decide) (fun c46 => ?_) (fun c46 => ?_)
    · skip
      have h := h.1 c46
      exact J_55 σ v1 v2 x_4 H locs h hP hD hS ls (lv_sub hl [1, 2, 3, 0] rfl)
    · skip
      have h := h.2 c46
      refine lv_iload_n G.1 G.2.1 d_Mo_reachFrom_49 rfl (lv_at hl 0 rfl) ?_
      refine lv_bipush (v := 49) G.1 G.2.1 d_Mo_reachFrom_50 (by decide) ?_
      refine lv_icmp_ne (tgt := 79) G.1 G.2.1 d_Mo_reachFrom_52 (by decide) (fun c52 => ?_) (fun c52 => ?_)
      · skip
        have h := h.1 c52
        refine lv_iload_n G.1 G.2.1 d_Mo_reachFrom_79 rfl (lv_at hl 0 rfl) ?_
        refine lv_bipush (v := 50) G.1 G.2.1 d_Mo_reachFrom_80 (by decide) ?_
        have J_91 : ∀ (s_j91 : St) (H : Heap) (locs : List Loc), wj_Mo_reachFrom_91 y Post a0 s_j91 → va_P D CL (ws g ad y s_j91) H → va_D A (ws g ad y s_j91) → va_S A s.heap H locs → ∀ ls, lv_has ls 8 [] → W p l e ru_Mo_reachFrom s m args below meth c H locs 0 0 Q (F0 m 91 ls []) := by
          intro s_j91 H locs h hP hD hS ls hl
          unfold wj_Mo_reachFrom_91 at h
          exact hret _ _ _ _ _ _ ls h hP hD hS (Nat.le_refl _) (Nat.le_refl _) d_Mo_reachFrom_91
        refine lv_icmp_lt (tgt := 91) G.1 G.2.1 d_Mo_reachFrom_82 (by decide) (fun c82 => ?_) (fun c82 => ?_)
        · skip
          have h := h.1 c82
          exact J_91 σ H locs h hP hD hS ls (lv_sub hl [] rfl)
        · skip
          have h := h.2 c82
          refine lv_iload_n G.1 G.2.1 d_Mo_reachFrom_85 rfl (lv_at hl 0 rfl) ?_
          refine lv_bipush (v := 53) G.1 G.2.1 d_Mo_reachFrom_86 (by decide) ?_
          refine lv_icmp_le (tgt := 92) G.1 G.2.1 d_Mo_reachFrom_88 (by decide) (fun c88 => ?_) (fun c88 => ?_)
          · skip
            have h := h.1 c88
            refine lv_aload_n G.1 G.2.1 d_Mo_reachFrom_92 rfl (lv_at hl 1 rfl) ?_
            refine lv_iload_n G.1 G.2.1 d_Mo_reachFrom_93 rfl (lv_at hl 0 rfl) ?_
            refine W.eq (g2 := F0 m 94 ls [.int x_4, .ref (ad a0)]) rfl ?_
            refine lv_aload_n G.1 G.2.1 d_Mo_reachFrom_94 rfl (lv_at hl 1 rfl) ?_
            refine ugf (v := .ref (ad b_1)) G hP h_a0 iMo rfl 45 (by decide) rfl q3109 rfl (by show va_rf ((sO σ a0 45).map ad) = _; rw [e_2]; rfl) d_Mo_reachFrom_95 ?_
            refine ugfN (v := .ref (yP y b_1 31)) G hP c_3 iMw rfl 31 (by decide) rfl q2766 rfl rfl d_Mo_reachFrom_98 ?_
            refine lv_iload_n G.1 G.2.1 d_Mo_reachFrom_101 rfl (lv_at hl 3 rfl) ?_
            refine uiald G hP (kdp c_3 rfl) (typ c_3 rfl) h d_Mo_reachFrom_102 (fun x_9 h => ?_)
            refine lv_aload_n G.1 G.2.1 d_Mo_reachFrom_103 rfl (lv_at hl 1 rfl) ?_
            refine ugf (v := .ref (ad b_1)) G hP h_a0 iMo rfl 45 (by decide) rfl q3109 rfl (by show va_rf ((sO σ a0 45).map ad) = _; rw [e_2]; rfl) d_Mo_reachFrom_104 ?_
            refine ugfN (v := .ref (yP y b_1 32)) G hP c_3 iMw rfl 32 (by decide) rfl q2768 rfl rfl d_Mo_reachFrom_107 ?_
            refine lv_iload_n G.1 G.2.1 d_Mo_reachFrom_110 rfl (lv_at hl 3 rfl) ?_
            refine uiald G hP (kdp c_3 rfl) (typ c_3 rfl) h d_Mo_reachFrom_111 (fun x_10 h => ?_)
            refine lv_aload_n G.1 G.2.1 d_Mo_reachFrom_112 rfl (lv_at hl 1 rfl) ?_
            refine ugf (v := .ref (ad b_1)) G hP h_a0 iMo rfl 45 (by decide) rfl q3109 rfl (by show va_rf ((sO σ a0 45).map ad) = _; rw [e_2]; rfl) d_Mo_reachFrom_113 ?_
            refine W.eq (g2 := F0 m 116 ls [.ref (ad b_1), .int x_10, .int x_9, .int x_4, .ref (ad a0)]) rfl ?_
            refine ugfN (v := .ref (yP y b_1 33)) G hP c_3 iMw rfl 33 (by decide) rfl q2770 rfl rfl d_Mo_reachFrom_116 ?_
            refine lv_iload_n G.1 G.2.1 d_Mo_reachFrom_119 rfl (lv_at hl 3 rfl) ?_
            refine uiald G hP (kdp c_3 rfl) (typ c_3 rfl) h d_Mo_reachFrom_120 (fun x_11 h => ?_)
            refine lv_iload_n G.1 G.2.1 d_Mo_reachFrom_121 rfl (lv_at hl 2 rfl) ?_
            refine lv_bipush (v := 12) G.1 G.2.1 d_Mo_reachFrom_122 (by decide) ?_
            refine lv_idiv G.1 G.2.1 d_Mo_reachFrom_124 (by decide) ?_
            refine ucVi (As := [.int x_4, .int x_9, .int x_10, .int x_11, .int (v1 / 12)]) (rest := []) G hP hD hS (cu_Mo_findMethod l D g ad y _ σ a0 x_4 x_9 x_10 x_11 (v1 / 12) H.size h_a0 h) w9_Mo_findMethod q3851 ⟨Nat.le_of_ble_eq_true rfl, Nat.le_of_ble_eq_true rfl⟩ rfl rfl h_a0 (q := (RMo, TMo, 131)) rfl rfl hl.1 rfl (Nat.le_of_ble_eq_true rfl) rfl ⟨Nat.le_refl _, Nat.le_refl _⟩ d_Mo_reachFrom_125 (fun r_12 s_13 H locs h hP hD hS => ?_)
            refine lv_istore (lv' := [(4, .int r_12), (3, .int x_4), (0, .ref (ad a0)), (1, .int v1), (2, .int v2)]) G.1 G.2.1 d_Mo_reachFrom_128 hl (by decide) rfl (fun ls hl => ?_)
            refine lv_iload G.1 G.2.1 d_Mo_reachFrom_130 (lv_at hl 0 rfl) ?_
            refine lv_if_ge (tgt := 136) G.1 G.2.1 d_Mo_reachFrom_132 (by decide) (fun c132 => ?_) (fun c132 => ?_)
            · skip
              have h := h.1 c132
              refine lv_iload_n G.1 G.2.1 d_Mo_reachFrom_136 rfl (lv_at hl 1 rfl) ?_
              refine lv_bipush (v := 52) G.1 G.2.1 d_Mo_reachFrom_137 (by decide) ?_
              have J_163 : ∀ (s_j163 : St) (x3j163 : Int32) (x4j163 : Int32) (H : Heap) (locs : List Loc), wj_Mo_reachFrom_163 y Post a0 s_j163 x3j163 x4j163 → va_P D CL (ws g ad y s_j163) H → va_D A (ws g ad y s_j163) → va_S A s.heap H locs → ∀ ls, lv_has ls 8 [(0, .ref (ad a0)), (3, .int x3j163), (4, .int x4j163)] → W p l e ru_Mo_reachFrom s m args below meth c H locs 0 0 Q (F0 m 163 ls []) := by
                intro s_j163 x3j163 x4j163 H locs h hP hD hS ls hl
                unfold wj_Mo_reachFrom_163 at h
                refine lv_aload_n G.1 G.2.1 d_Mo_reachFrom_163 rfl (lv_at hl 0 rfl) ?_
                refine lv_iload G.1 G.2.1 d_Mo_reachFrom_164 (lv_at hl 2 rfl) ?_
                refine ucVv (As := [.int x4j163]) (rest := []) G hP hD hS (cu_Mo_addReached l D g ad y _ s_j163 a0 x4j163 H.size h_a0 h) w9_Mo_addReached q4177 ⟨Nat.le_of_ble_eq_true rfl, Nat.le_of_ble_eq_true rfl⟩ rfl rfl h_a0 (q := (RMo, TMo, 131)) rfl rfl hl.1 rfl (Nat.le_of_ble_eq_true rfl) rfl ⟨Nat.le_refl _, Nat.le_refl _⟩ d_Mo_reachFrom_166 (fun s_15 H locs h hP hD hS => ?_)
                refine lv_iload_n G.1 G.2.1 d_Mo_reachFrom_169 rfl (lv_at hl 1 rfl) ?_
                refine lv_bipush (v := 52) G.1 G.2.1 d_Mo_reachFrom_170 (by decide) ?_
                have J_184 : ∀ (s_j184 : St) (H : Heap) (locs : List Loc), wj_Mo_reachFrom_184 y Post a0 s_j184 → va_P D CL (ws g ad y s_j184) H → va_D A (ws g ad y s_j184) → va_S A s.heap H locs → ∀ ls, lv_has ls 8 [] → W p l e ru_Mo_reachFrom s m args below meth c H locs 0 0 Q (F0 m 184 ls []) := by
                  intro s_j184 H locs h hP hD hS ls hl
                  unfold wj_Mo_reachFrom_184 at h
                  exact hret _ _ _ _ _ _ ls h hP hD hS (Nat.le_refl _) (Nat.le_refl _) d_Mo_reachFrom_184
                refine lv_icmp_ne (tgt := 184) G.1 G.2.1 d_Mo_reachFrom_172 (by decide) (fun c172 => ?_) (fun c172 => ?_)
                · skip
                  have h := h.1 c172
                  exact J_184 s_15 H locs h hP hD hS ls (lv_sub hl [] rfl)
                · skip
                  have h := h.2 c172
                  refine lv_aload_n G.1 G.2.1 d_Mo_reachFrom_175 rfl (lv_at hl 0 rfl) ?_
                  refine lv_iload G.1 G.2.1 d_Mo_reachFrom_176 (lv_at hl 2 rfl) ?_
                  refine lv_bipush (v := 12) G.1 G.2.1 d_Mo_reachFrom_178 (by decide) ?_
                  refine lv_idiv G.1 G.2.1 d_Mo_reachFrom_180 (by decide) ?_
                  refine ucVv (As := [.int (x4j163 / 12)]) (rest := []) G hP hD hS (cu_Mo_addStarts l D g ad y _ s_15 a0 (x4j163 / 12) H.size h_a0 h) w9_Mo_addStarts q4173 ⟨Nat.le_of_ble_eq_true rfl, Nat.le_of_ble_eq_true rfl⟩ rfl rfl h_a0 (q := (RMo, TMo, 131)) rfl rfl hl.1 rfl (Nat.le_of_ble_eq_true rfl) rfl ⟨Nat.le_refl _, Nat.le_refl _⟩ d_Mo_reachFrom_181 (fun s_17 H locs h hP hD hS => ?_)
                  exact J_184 s_17 H locs h hP hD hS ls (lv_sub hl [] rfl)
              refine W.eq (g2 := F0 m 139 ls [.int 52, .int x_4]) rfl ?_
              refine lv_icmp_eq (tgt := 163) G.1 G.2.1 d_Mo_reachFrom_139 (by decide) (fun c139 => ?_) (fun c139 => ?_)
              · skip
                have h := h.1 c139
                exact J_163 s_13 x_4 r_12 H locs h hP hD hS ls (lv_sub hl [2, 1, 0] rfl)
              · skip
                have h := h.2 c139
                refine lv_iload_n G.1 G.2.1 d_Mo_reachFrom_142 rfl (lv_at hl 1 rfl) ?_
                refine lv_bipush (v := 51) G.1 G.2.1 d_Mo_reachFrom_143 (by decide) ?_
                refine lv_icmp_eq (tgt := 163) G.1 G.2.1 d_Mo_reachFrom_145 (by decide) (fun c145 => ?_) (fun c145 => ?_)
                · skip
                  have h := h.1 c145
                  exact J_163 s_13 x_4 r_12 H locs h hP hD hS ls (lv_sub hl [2, 1, 0] rfl)
                · skip
                  have h := h.2 c145
                  refine lv_aload_n G.1 G.2.1 d_Mo_reachFrom_148 rfl (lv_at hl 2 rfl) ?_
                  obtain ⟨b_18, e_19, c_20, h⟩ := h
                  refine ugf (v := .ref (ad b_18)) G hP h_a0 iMo rfl 45 (by decide) rfl q3109 rfl (by show va_rf ((sO s_13 a0 45).map ad) = _; rw [e_19]; rfl) d_Mo_reachFrom_149 ?_
                  refine ugfN (v := .ref (yP y b_18 20)) G hP c_20 iMw rfl 20 (by decide) rfl q2744 rfl rfl d_Mo_reachFrom_152 ?_
                  refine lv_iload G.1 G.2.1 d_Mo_reachFrom_155 (lv_at hl 0 rfl) ?_
                  refine uiald G hP (kdp c_20 rfl) (typ c_20 rfl) h d_Mo_reachFrom_157 (fun x_21 h => ?_)
                  refine lv_iconst (v := 4) G.1 G.2.1 d_Mo_reachFrom_158 (by decide) ?_
                  refine lv_iand G.1 G.2.1 d_Mo_reachFrom_159 ?_
                  refine lv_if_eq (tgt := 185) G.1 G.2.1 d_Mo_reachFrom_160 (by decide) (fun c160 => ?_) (fun c160 => ?_)
                  · skip
                    have h := h.1 c160
                    refine W.eq (g2 := F0 m 185 ls []) rfl ?_
                    refine lv_aload_n G.1 G.2.1 d_Mo_reachFrom_185 rfl (lv_at hl 2 rfl) ?_
                    refine lv_aload_n G.1 G.2.1 d_Mo_reachFrom_186 rfl (lv_at hl 2 rfl) ?_
                    refine ugf (v := .ref (ad b_18)) G hP h_a0 iMo rfl 45 (by decide) rfl q3109 rfl (by show va_rf ((sO s_13 a0 45).map ad) = _; rw [e_19]; rfl) d_Mo_reachFrom_187 ?_
                    refine ugfN (v := .ref (yP y b_18 31)) G hP c_20 iMw rfl 31 (by decide) rfl q2766 rfl rfl d_Mo_reachFrom_190 ?_
                    refine lv_iload_n G.1 G.2.1 d_Mo_reachFrom_193 rfl (lv_at hl 4 rfl) ?_
                    refine uiald G hP (kdp c_20 rfl) (typ c_20 rfl) h d_Mo_reachFrom_194 (fun x_22 h => ?_)
                    refine ucVi (As := [.int x_22]) (rest := []) G hP hD hS (cu_Mo_classOf l D g ad y _ s_13 a0 x_22 H.size h_a0 h) w9_Mo_classOf q3571 ⟨Nat.le_of_ble_eq_true rfl, Nat.le_of_ble_eq_true rfl⟩ rfl rfl h_a0 (q := (RMo, TMo, 131)) rfl rfl hl.1 rfl (Nat.le_of_ble_eq_true rfl) rfl ⟨Nat.le_refl _, Nat.le_refl _⟩ d_Mo_reachFrom_195 (fun r_23 s_24 H locs h hP hD hS => ?_)
                    refine lv_istore (lv' := [(5, .int r_23), (4, .int r_12), (3, .int x_4), (0, .ref (ad a0)), (1, .int v1), (2, .int v2)]) G.1 G.2.1 d_Mo_reachFrom_198 hl (by decide) rfl (fun ls hl => ?_)
                    refine lv_iconst (v := 0) G.1 G.2.1 d_Mo_reachFrom_200 (by decide) ?_
                    refine lv_istore (lv' := [(6, .int 0), (5, .int r_23), (4, .int r_12), (3, .int x_4), (0, .ref (ad a0)), (1, .int v1), (2, .int v2)]) G.1 G.2.1 d_Mo_reachFrom_201 hl (by decide) rfl (fun ls hl => ?_)
                    unfold wl_Mo_reachFrom_203 at h
                    obtain ⟨I_203, μ_203, hI_203, hB_203⟩ := h
                    have L_203 : ∀ (n_203 : Nat) (s_h203 : St) (x2h203 : Int32) (x5h203 : Int32) (x6h203 : Int32), μ_203 s_h203 x2h203 x5h203 x6h203 < n_203 → I_203 s_h203 x2h203 x5h203 x6h203 → ∀ (H : Heap) (locs : List Loc), va_P D CL (ws g ad y s_h203) H → va_D A (ws g ad y s_h203) → va_S A s.heap H locs → ∀ ls, lv_has ls 8 [(0, .ref (ad a0)), (2, .int x2h203), (5, .int x5h203), (6, .int x6h203)] → W p l e ru_Mo_reachFrom s m args below meth c H locs 0 0 Q (F0 m 203 ls []) := by
                      intro n_203
                      induction n_203 with
                      | zero => intro s_h203 x2h203 x5h203 x6h203 hμ; exact absurd hμ (Nat.not_lt_zero _)
                      | succ n_203 ih_203 =>
                        intro s_h203 x2h203 x5h203 x6h203 hμ_203 hJ H locs hP hD hS ls hl
                        obtain ⟨K_203, hK_203, h⟩ : ∃ K : St → Int32 → Int32 → Int32 → Prop, (∀ z (t0 : Int32) (t1 : Int32) (t2 : Int32), K z t0 t1 t2 → I_203 z t0 t1 t2 ∧ μ_203 z t0 t1 t2 < μ_203 s_h203 x2h203 x5h203 x6h203) ∧ wb_Mo_reachFrom_203 y Post K a0 s_h203 x2h203 x5h203 x6h203 := ⟨_, fun _ _ _ _ h => h, hB_203 s_h203 x2h203 x5h203 x6h203 hJ⟩
                        unfold wb_Mo_reachFrom_203 at h
                        refine lv_iload G.1 G.2.1 d_Mo_reachFrom_203 (lv_at hl 3 rfl) ?_
                        refine lv_aload_n G.1 G.2.1 d_Mo_reachFrom_205 rfl (lv_at hl 0 rfl) ?_
                        obtain ⟨b_25, e_26, c_27, h⟩ := h
                        refine ugf (v := .ref (ad b_25)) G hP h_a0 iMo rfl 45 (by decide) rfl q3109 rfl (by show va_rf ((sO s_h203 a0 45).map ad) = _; rw [e_26]; rfl) d_Mo_reachFrom_206 ?_
                        refine ugfN (v := .int (sV s_h203 b_25 2)) G hP c_27 iMw rfl 2 (by decide) rfl q2708 rfl rfl d_Mo_reachFrom_209 ?_
                        refine lv_icmp_ge (tgt := 294) G.1 G.2.1 d_Mo_reachFrom_212 (by decide) (fun c212 => ?_) (fun c212 => ?_)
                        · skip
                          have h := h.1 c212
                          exact hret _ _ _ _ _ _ ls h hP hD hS (Nat.le_refl _) (Nat.le_refl _) d_Mo_reachFrom_294
                        · skip
                          have h := h.2 c212
                          refine lv_aload_n G.1 G.2.1 d_Mo_reachFrom_215 rfl (lv_at hl 0 rfl) ?_
                          refine ugf (v := .ref (ad b_25)) G hP h_a0 iMo rfl 45 (by decide) rfl q3109 rfl (by show va_rf ((sO s_h203 a0 45).map ad) = _; rw [e_26]; rfl) d_Mo_reachFrom_216 ?_
                          refine ugfN (v := .ref (yP y b_25 5)) G hP c_27 iMw rfl 5 (by decide) rfl q2714 rfl rfl d_Mo_reachFrom_219 ?_
                          refine lv_iload G.1 G.2.1 d_Mo_reachFrom_222 (lv_at hl 3 rfl) ?_
                          refine uiald G hP (kdp c_27 rfl) (typ c_27 rfl) h d_Mo_reachFrom_224 (fun x_28 h => ?_)
                          refine lv_bipush (v := 6) G.1 G.2.1 d_Mo_reachFrom_225 (by decide) ?_
                          refine W.eq (g2 := F0 m 227 ls [.int 6, .int x_28]) rfl ?_
                          refine lv_iand G.1 G.2.1 d_Mo_reachFrom_227 ?_
                          have J_288 : ∀ (s_j288 : St) (x2j288 : Int32) (x5j288 : Int32) (x6j288 : Int32) (H : Heap) (locs : List Loc), wj_Mo_reachFrom_288 y Post K_203 a0 s_j288 x2j288 x5j288 x6j288 → va_P D CL (ws g ad y s_j288) H → va_D A (ws g ad y s_j288) → va_S A s.heap H locs → ∀ ls, lv_has ls 8 [(0, .ref (ad a0)), (2, .int x2j288), (5, .int x5j288), (6, .int x6j288)] → W p l e ru_Mo_reachFrom s m args below meth c H locs 0 0 Q (F0 m 288 ls []) := by
                            intro s_j288 x2j288 x5j288 x6j288 H locs h hP hD hS ls hl
                            unfold wj_Mo_reachFrom_288 at h
                            refine lv_iinc (v := x6j288 + 1) (lv' := [(6, .int (x6j288 + 1)), (0, .ref (ad a0)), (2, .int x2j288), (5, .int x5j288)]) G.1 G.2.1 d_Mo_reachFrom_288 hl (k := 3) rfl rfl (by decide) rfl (fun ls hl => ?_)
                            refine lv_goto (tgt := 203) G.1 G.2.1 d_Mo_reachFrom_291 (by decide) ?_
                            have h := hK_203 s_j288 x2j288 x5j288 (x6j288 + 1) h
                            exact ih_203 s_j288 x2j288 x5j288 (x6j288 + 1) (Nat.lt_of_lt_of_le h.2 (Nat.le_of_lt_succ hμ_203)) h.1 H locs hP hD hS ls (lv_sub hl [1, 2, 3, 0] rfl)
                          refine lv_if_ne (tgt := 288) G.1 G.2.1 d_Mo_reachFrom_228 (by decide) (fun c228 => ?_) (fun c228 => ?_)
                          · skip
                            have h := h.1 c228
                            exact J_288 s_h203 x2h203 x5h203 x6h203 H locs h hP hD hS ls (lv_sub hl [0, 1, 2, 3] rfl)
                          · skip
                            have h := h.2 c228
                            refine lv_aload_n G.1 G.2.1 d_Mo_reachFrom_231 rfl (lv_at hl 0 rfl) ?_
                            refine lv_iload G.1 G.2.1 d_Mo_reachFrom_232 (lv_at hl 3 rfl) ?_
                            refine lv_iload G.1 G.2.1 d_Mo_reachFrom_234 (lv_at hl 2 rfl) ?_
                            refine ucVi (As := [.int x6h203, .int x5h203]) (rest := []) G hP hD hS (cu_Mo_isBelow l D g ad y _ s_h203 a0 x6h203 x5h203 H.size h_a0 h) w9_Mo_isBelow q3903 ⟨Nat.le_of_ble_eq_true rfl, Nat.le_of_ble_eq_true rfl⟩ rfl rfl h_a0 (q := (RMo, TMo, 131)) rfl rfl hl.1 rfl (Nat.le_of_ble_eq_true rfl) rfl ⟨Nat.le_refl _, Nat.le_refl _⟩ d_Mo_reachFrom_236 (fun r_29 s_30 H locs h hP hD hS => ?_)
                            refine lv_if_eq (tgt := 288) G.1 G.2.1 d_Mo_reachFrom_239 (by decide) (fun c239 => ?_) (fun c239 => ?_)
                            · skip
                              have h := h.1 c239
                              exact J_288 s_30 x2h203 x5h203 x6h203 H locs h hP hD hS ls (lv_sub hl [0, 1, 2, 3] rfl)
                            · skip
                              have h := h.2 c239
                              refine lv_aload_n G.1 G.2.1 d_Mo_reachFrom_242 rfl (lv_at hl 0 rfl) ?_
                              refine lv_iload G.1 G.2.1 d_Mo_reachFrom_243 (lv_at hl 3 rfl) ?_
                              refine ucVi (As := [.int x6h203]) (rest := []) G hP hD hS (cu_Mo_isLinked l D g ad y _ s_30 a0 x6h203 H.size h_a0 h) w9_Mo_isLinked q3677 ⟨Nat.le_of_ble_eq_true rfl, Nat.le_of_ble_eq_true rfl⟩ rfl rfl h_a0 (q := (RMo, TMo, 131)) rfl rfl hl.1 rfl (Nat.le_of_ble_eq_true rfl) rfl ⟨Nat.le_refl _, Nat.le_refl _⟩ d_Mo_reachFrom_245 (fun r_31 s_32 H locs h hP hD hS => ?_)
                              refine lv_if_eq (tgt := 288) G.1 G.2.1 d_Mo_reachFrom_248 (by decide) (fun c248 => ?_) (fun c248 => ?_)
                              · skip
                                have h := h.1 c248
                                exact J_288 s_32 x2h203 x5h203 x6h203 H locs h hP hD hS ls (lv_sub hl [0, 1, 2, 3] rfl)
                              · skip
                                have h := h.2 c248
                                refine lv_aload_n G.1 G.2.1 d_Mo_reachFrom_251 rfl (lv_at hl 0 rfl) ?_
                                refine W.eq (g2 := F0 m 252 ls [.ref (ad a0)]) rfl ?_
                                refine lv_iload G.1 G.2.1 d_Mo_reachFrom_252 (lv_at hl 3 rfl) ?_
                                refine lv_aload_n G.1 G.2.1 d_Mo_reachFrom_254 rfl (lv_at hl 0 rfl) ?_
                                obtain ⟨b_33, e_34, c_35, h⟩ := h
                                refine ugf (v := .ref (ad b_33)) G hP h_a0 iMo rfl 45 (by decide) rfl q3109 rfl (by show va_rf ((sO s_32 a0 45).map ad) = _; rw [e_34]; rfl) d_Mo_reachFrom_255 ?_
                                refine ugfN (v := .ref (yP y b_33 32)) G hP c_35 iMw rfl 32 (by decide) rfl q2768 rfl rfl d_Mo_reachFrom_258 ?_
                                refine lv_iload_n G.1 G.2.1 d_Mo_reachFrom_261 rfl (lv_at hl 1 rfl) ?_
                                refine uiald G hP (kdp c_35 rfl) (typ c_35 rfl) h d_Mo_reachFrom_262 (fun x_36 h => ?_)
                                refine lv_aload_n G.1 G.2.1 d_Mo_reachFrom_263 rfl (lv_at hl 0 rfl) ?_
                                refine ugf (v := .ref (ad b_33)) G hP h_a0 iMo rfl 45 (by decide) rfl q3109 rfl (by show va_rf ((sO s_32 a0 45).map ad) = _; rw [e_34]; rfl) d_Mo_reachFrom_264 ?_
                                refine ugfN (v := .ref (yP y b_33 33)) G hP c_35 iMw rfl 33 (by decide) rfl q2770 rfl rfl d_Mo_reachFrom_267 ?_
                                refine lv_iload_n G.1 G.2.1 d_Mo_reachFrom_270 rfl (lv_at hl 1 rfl) ?_
                                refine uiald G hP (kdp c_35 rfl) (typ c_35 rfl) h d_Mo_reachFrom_271 (fun x_37 h => ?_)
                                refine ucVi (As := [.int x6h203, .int x_36, .int x_37]) (rest := []) G hP hD hS (cu_Mo_dispatch l D g ad y _ s_32 a0 x6h203 x_36 x_37 H.size h_a0 h) w9_Mo_dispatch q3967 ⟨Nat.le_of_ble_eq_true rfl, Nat.le_of_ble_eq_true rfl⟩ rfl rfl h_a0 (q := (RMo, TMo, 131)) rfl rfl hl.1 rfl (Nat.le_of_ble_eq_true rfl) rfl ⟨Nat.le_refl _, Nat.le_refl _⟩ d_Mo_reachFrom_272 (fun r_38 s_39 H locs h hP hD hS => ?_)
                                refine W.eq (g2 := F0 m 275 ls [.int r_38]) rfl ?_
                                refine lv_istore (lv' := [(7, .int r_38), (0, .ref (ad a0)), (2, .int x2h203), (5, .int x5h203), (6, .int x6h203)]) G.1 G.2.1 d_Mo_reachFrom_275 hl (by decide) rfl (fun ls hl => ?_)
                                refine lv_iload G.1 G.2.1 d_Mo_reachFrom_277 (lv_at hl 0 rfl) ?_
                                refine lv_if_lt (tgt := 288) G.1 G.2.1 d_Mo_reachFrom_279 (by decide) (fun c279 => ?_) (fun c279 => ?_)
                                · skip
                                  have h := h.1 c279
                                  exact J_288 s_39 x2h203 x5h203 x6h203 H locs h hP hD hS ls (lv_sub hl [1, 2, 3, 4] rfl)
                                · skip
                                  have h := h.2 c279
                                  refine lv_aload_n G.1 G.2.1 d_Mo_reachFrom_282 rfl (lv_at hl 1 rfl) ?_
                                  refine lv_iload G.1 G.2.1 d_Mo_reachFrom_283 (lv_at hl 0 rfl) ?_
                                  refine ucVv (As := [.int r_38]) (rest := []) G hP hD hS (cu_Mo_addReached l D g ad y _ s_39 a0 r_38 H.size h_a0 h) w9_Mo_addReached q4177 ⟨Nat.le_of_ble_eq_true rfl, Nat.le_of_ble_eq_true rfl⟩ rfl rfl h_a0 (q := (RMo, TMo, 131)) rfl rfl hl.1 rfl (Nat.le_of_ble_eq_true rfl) rfl ⟨Nat.le_refl _, Nat.le_refl _⟩ d_Mo_reachFrom_285 (fun s_41 H locs h hP hD hS => ?_)
                                  exact J_288 s_41 x2h203 x5h203 x6h203 H locs h hP hD hS ls (lv_sub hl [1, 2, 3, 4] rfl)
                    exact L_203 _ s_24 v2 r_23 0 (Nat.lt_succ_self _) hI_203 H locs hP hD hS ls (lv_sub hl [4, 6, 1, 0] rfl)
                  · skip
                    have h := h.2 c160
                    exact J_163 s_13 x_4 r_12 H locs h hP hD hS ls (lv_sub hl [2, 1, 0] rfl)
            · skip
              have h := h.2 c132
              exact hret _ _ _ _ _ _ ls h hP hD hS (Nat.le_refl _) (Nat.le_refl _) d_Mo_reachFrom_135
          · skip
            have h := h.2 c88
            exact J_91 σ H locs h hP hD hS ls (lv_sub hl [] rfl)
      · skip
        have h := h.2 c52
        exact J_55 σ v1 v2 x_4 H locs h hP hD hS ls (lv_sub hl [1, 2, 3, 0] rfl)
  · skip
    have h := h.2 c13
    refine lv_aload_n G.1 G.2.1 d_Mo_reachFrom_16 rfl (lv_at hl 1 rfl) ?_
    refine lv_iload_n G.1 G.2.1 d_Mo_reachFrom_17 rfl (lv_at hl 2 rfl) ?_
    refine W.eq (g2 := F0 m 18 ls [.int v1, .ref (ad a0)]) rfl ?_
    refine lv_iload_n G.1 G.2.1 d_Mo_reachFrom_18 rfl (lv_at hl 3 rfl) ?_
    refine ucVi (As := [.int v1, .int v2]) (rest := []) G hP hD hS (cu_Mo_foretold l D g ad y _ σ a0 v1 v2 H.size h_a0 h) w9_Mo_foretold q4157 ⟨Nat.le_of_ble_eq_true rfl, Nat.le_of_ble_eq_true rfl⟩ rfl rfl h_a0 (q := (RMo, TMo, 131)) rfl rfl hl.1 rfl (Nat.le_of_ble_eq_true rfl) rfl ⟨Nat.le_refl _, Nat.le_refl _⟩ d_Mo_reachFrom_19 (fun r_42 s_43 H locs h hP hD hS => ?_)
    have J_42 : ∀ (s_j42 : St) (H : Heap) (locs : List Loc), wj_Mo_reachFrom_42 y Post a0 s_j42 → va_P D CL (ws g ad y s_j42) H → va_D A (ws g ad y s_j42) → va_S A s.heap H locs → ∀ ls, lv_has ls 8 [] → W p l e ru_Mo_reachFrom s m args below meth c H locs 0 0 Q (F0 m 42 ls []) := by
      intro s_j42 H locs h hP hD hS ls hl
      unfold wj_Mo_reachFrom_42 at h
      exact hret _ _ _ _ _ _ ls h hP hD hS (Nat.le_refl _) (Nat.le_refl _) d_Mo_reachFrom_42
    refine lv_if_ne (tgt := 42) G.1 G.2.1 d_Mo_reachFrom_22 (by decide) (fun c22 => ?_) (fun c22 => ?_)
    · skip
      have h := h.1 c22
      exact J_42 s_43 H locs h hP hD hS ls (lv_sub hl [] rfl)
    · skip
      have h := h.2 c22
      refine lv_aload_n G.1 G.2.1 d_Mo_reachFrom_25 rfl (lv_at hl 1 rfl) ?_
      refine lv_aload_n G.1 G.2.1 d_Mo_reachFrom_26 rfl (lv_at hl 1 rfl) ?_
      refine lv_aload_n G.1 G.2.1 d_Mo_reachFrom_27 rfl (lv_at hl 1 rfl) ?_
      obtain ⟨b_44, e_45, c_46, h⟩ := h
      refine ugf (v := .ref (ad b_44)) G hP h_a0 iMo rfl 45 (by decide) rfl q3109 rfl (by show va_rf ((sO s_43 a0 45).map ad) = _; rw [e_45]; rfl) d_Mo_reachFrom_28 ?_
      refine ugfN (v := .ref (yP y b_44 31)) G hP c_46 iMw rfl 31 (by decide) rfl q2766 rfl rfl d_Mo_reachFrom_31 ?_
      refine lv_iload_n G.1 G.2.1 d_Mo_reachFrom_34 rfl (lv_at hl 3 rfl) ?_
      refine uiald G hP (kdp c_46 rfl) (typ c_46 rfl) h d_Mo_reachFrom_35 (fun x_47 h => ?_)
      refine ucVi (As := [.int x_47]) (rest := [.ref (ad a0)]) G hP hD hS (cu_Mo_classOf l D g ad y _ s_43 a0 x_47 H.size h_a0 h) w9_Mo_classOf q3571 ⟨Nat.le_of_ble_eq_true rfl, Nat.le_of_ble_eq_true rfl⟩ rfl rfl h_a0 (q := (RMo, TMo, 131)) rfl rfl hl.1 rfl (Nat.le_of_ble_eq_true rfl) rfl ⟨Nat.le_refl _, Nat.le_refl _⟩ d_Mo_reachFrom_36 (fun r_48 s_49 H locs h hP hD hS => ?_)
      refine ucVv (As := [.int r_48]) (rest := []) G hP hD hS (cu_Mo_addStarts l D g ad y _ s_49 a0 r_48 H.size h_a0 h) w9_Mo_addStarts q4173 ⟨Nat.le_of_ble_eq_true rfl, Nat.le_of_ble_eq_true rfl⟩ rfl rfl h_a0 (q := (RMo, TMo, 131)) rfl rfl hl.1 rfl (Nat.le_of_ble_eq_true rfl) rfl ⟨Nat.le_refl _, Nat.le_refl _⟩ d_Mo_reachFrom_39 (fun s_51 H locs h hP hD hS => ?_)
      exact J_42 s_51 H locs h hP hD hS ls (lv_sub hl [] rfl)
theorem q4169 : Cond.methodLink "ClassWorksModel" 1297 y_Mo_reachFrom ∈ lw_ok := lw_okmem (List.mem_of_getElem? (i := 4169) (by decide +kernel)) rfl
theorem q4172 : Cond.code y_Mo_reachFrom b_Mo_reachFrom 8 (none) ∈ lw_ok := lw_okmem (List.mem_of_getElem? (i := 4172) (by decide +kernel)) rfl
theorem q4171 : Cond.instanceMethod y_Mo_reachFrom ∈ lw_ok := lw_okmem (List.mem_of_getElem? (i := 4171) (by decide +kernel)) rfl
theorem q314 : Cond.selects y_Mo_reachFrom.cls y_Mo_reachFrom y_Mo_reachFrom ∈ lw_ok := lw_okmem (List.mem_of_getElem? (i := 314) (by decide +kernel)) rfl
theorem w9_Mo_reachFrom : CWv y_Mo_reachFrom b_Mo_reachFrom 8 (none) 2 ∧ Cond.instanceMethod y_Mo_reachFrom ∈ lw_ok ∧ Cond.selects y_Mo_reachFrom.cls y_Mo_reachFrom y_Mo_reachFrom ∈ lw_ok := ⟨⟨q4172, q348, by decide +kernel, by decide +kernel, by decide +kernel⟩, q4171, q314⟩
def y_Mo_reach : MethodName := ⟨"ClassWorksModel", "reach", "(III)I"⟩
abbrev b_Mo_reach : ByteArray := prog_14_method_185_code
theorem d_Mo_reach_0 : decode b_Mo_reach 0 = .ok (.aload_n 0, 1) := by decide +kernel
theorem d_Mo_reach_1 : decode b_Mo_reach 1 = .ok (.iload_n 1, 1) := by decide +kernel
theorem d_Mo_reach_2 : decode b_Mo_reach 2 = .ok (.iload_n 2, 1) := by decide +kernel
theorem d_Mo_reach_3 : decode b_Mo_reach 3 = .ok (.invokevirtual 1129, 3) := by decide +kernel
theorem d_Mo_reach_6 : decode b_Mo_reach 6 = .ok (.ifCond .eq 22, 3) := by decide +kernel
theorem d_Mo_reach_9 : decode b_Mo_reach 9 = .ok (.iload_n 3, 1) := by decide +kernel
theorem d_Mo_reach_10 : decode b_Mo_reach 10 = .ok (.ifCond .lt 18, 3) := by decide +kernel
theorem d_Mo_reach_13 : decode b_Mo_reach 13 = .ok (.iload_n 3, 1) := by decide +kernel
theorem d_Mo_reach_14 : decode b_Mo_reach 14 = .ok (.aload_n 0, 1) := by decide +kernel
theorem d_Mo_reach_15 : decode b_Mo_reach 15 = .ok (.getfield 263, 3) := by decide +kernel
theorem d_Mo_reach_18 : decode b_Mo_reach 18 = .ok (.iload_n 1, 1) := by decide +kernel
theorem d_Mo_reach_19 : decode b_Mo_reach 19 = .ok (.aaload, 1) := by decide +kernel
theorem d_Mo_reach_20 : decode b_Mo_reach 20 = .ok (.getfield 438, 3) := by decide +kernel
theorem d_Mo_reach_23 : decode b_Mo_reach 23 = .ok (.iload_n 2, 1) := by decide +kernel
theorem d_Mo_reach_24 : decode b_Mo_reach 24 = .ok (.iaload, 1) := by decide +kernel
theorem d_Mo_reach_25 : decode b_Mo_reach 25 = .ok (.if_icmp .lt 5, 3) := by decide +kernel
theorem d_Mo_reach_28 : decode b_Mo_reach 28 = .ok (.iconst (-1), 1) := by decide +kernel
theorem d_Mo_reach_29 : decode b_Mo_reach 29 = .ok (.ireturn, 1) := by decide +kernel
theorem d_Mo_reach_30 : decode b_Mo_reach 30 = .ok (.aload_n 0, 1) := by decide +kernel
theorem d_Mo_reach_31 : decode b_Mo_reach 31 = .ok (.aload_n 0, 1) := by decide +kernel
theorem d_Mo_reach_32 : decode b_Mo_reach 32 = .ok (.getfield 263, 3) := by decide +kernel
theorem d_Mo_reach_35 : decode b_Mo_reach 35 = .ok (.iload_n 1, 1) := by decide +kernel
theorem d_Mo_reach_36 : decode b_Mo_reach 36 = .ok (.aaload, 1) := by decide +kernel
theorem d_Mo_reach_37 : decode b_Mo_reach 37 = .ok (.putfield 522, 3) := by decide +kernel
theorem d_Mo_reach_40 : decode b_Mo_reach 40 = .ok (.iconst 0, 1) := by decide +kernel
theorem d_Mo_reach_41 : decode b_Mo_reach 41 = .ok (.istore 4, 2) := by decide +kernel
theorem d_Mo_reach_43 : decode b_Mo_reach 43 = .ok (.iload 4, 2) := by decide +kernel
theorem d_Mo_reach_45 : decode b_Mo_reach 45 = .ok (.sipush 612, 3) := by decide +kernel
theorem d_Mo_reach_48 : decode b_Mo_reach 48 = .ok (.if_icmp .ge 17, 3) := by decide +kernel
theorem d_Mo_reach_51 : decode b_Mo_reach 51 = .ok (.aload_n 0, 1) := by decide +kernel
theorem d_Mo_reach_52 : decode b_Mo_reach 52 = .ok (.getfield 353, 3) := by decide +kernel
theorem d_Mo_reach_55 : decode b_Mo_reach 55 = .ok (.iload 4, 2) := by decide +kernel
theorem d_Mo_reach_57 : decode b_Mo_reach 57 = .ok (.iconst 0, 1) := by decide +kernel
theorem d_Mo_reach_58 : decode b_Mo_reach 58 = .ok (.bastore, 1) := by decide +kernel
theorem d_Mo_reach_59 : decode b_Mo_reach 59 = .ok (.iinc 4 1, 3) := by decide +kernel
theorem d_Mo_reach_62 : decode b_Mo_reach 62 = .ok (.goto (-19), 3) := by decide +kernel
theorem d_Mo_reach_65 : decode b_Mo_reach 65 = .ok (.aload_n 0, 1) := by decide +kernel
theorem d_Mo_reach_66 : decode b_Mo_reach 66 = .ok (.getfield 350, 3) := by decide +kernel
theorem d_Mo_reach_69 : decode b_Mo_reach 69 = .ok (.iconst 0, 1) := by decide +kernel
theorem d_Mo_reach_70 : decode b_Mo_reach 70 = .ok (.bipush 12, 2) := by decide +kernel
theorem d_Mo_reach_72 : decode b_Mo_reach 72 = .ok (.iload_n 2, 1) := by decide +kernel
theorem d_Mo_reach_73 : decode b_Mo_reach 73 = .ok (.imul, 1) := by decide +kernel
theorem d_Mo_reach_74 : decode b_Mo_reach 74 = .ok (.iload_n 3, 1) := by decide +kernel
theorem d_Mo_reach_75 : decode b_Mo_reach 75 = .ok (.iadd, 1) := by decide +kernel
theorem d_Mo_reach_76 : decode b_Mo_reach 76 = .ok (.iastore, 1) := by decide +kernel
theorem d_Mo_reach_77 : decode b_Mo_reach 77 = .ok (.aload_n 0, 1) := by decide +kernel
theorem d_Mo_reach_78 : decode b_Mo_reach 78 = .ok (.getfield 353, 3) := by decide +kernel
theorem d_Mo_reach_81 : decode b_Mo_reach 81 = .ok (.bipush 12, 2) := by decide +kernel
theorem d_Mo_reach_83 : decode b_Mo_reach 83 = .ok (.iload_n 2, 1) := by decide +kernel
theorem d_Mo_reach_84 : decode b_Mo_reach 84 = .ok (.imul, 1) := by decide +kernel
theorem d_Mo_reach_85 : decode b_Mo_reach 85 = .ok (.iload_n 3, 1) := by decide +kernel
theorem d_Mo_reach_86 : decode b_Mo_reach 86 = .ok (.iadd, 1) := by decide +kernel
theorem d_Mo_reach_87 : decode b_Mo_reach 87 = .ok (.iconst 1, 1) := by decide +kernel
theorem d_Mo_reach_88 : decode b_Mo_reach 88 = .ok (.bastore, 1) := by decide +kernel
theorem d_Mo_reach_89 : decode b_Mo_reach 89 = .ok (.aload_n 0, 1) := by decide +kernel
theorem d_Mo_reach_90 : decode b_Mo_reach 90 = .ok (.iconst 1, 1) := by decide +kernel
theorem d_Mo_reach_91 : decode b_Mo_reach 91 = .ok (.putfield 1288, 3) := by decide +kernel
theorem d_Mo_reach_94 : decode b_Mo_reach 94 = .ok (.iconst 0, 1) := by decide +kernel
theorem d_Mo_reach_95 : decode b_Mo_reach 95 = .ok (.istore 4, 2) := by decide +kernel
theorem d_Mo_reach_97 : decode b_Mo_reach 97 = .ok (.iload 4, 2) := by decide +kernel
theorem d_Mo_reach_99 : decode b_Mo_reach 99 = .ok (.aload_n 0, 1) := by decide +kernel
theorem d_Mo_reach_100 : decode b_Mo_reach 100 = .ok (.getfield 1288, 3) := by decide +kernel
theorem d_Mo_reach_103 : decode b_Mo_reach 103 = .ok (.if_icmp .ge 61, 3) := by decide +kernel
theorem d_Mo_reach_106 : decode b_Mo_reach 106 = .ok (.aload_n 0, 1) := by decide +kernel
theorem d_Mo_reach_107 : decode b_Mo_reach 107 = .ok (.getfield 350, 3) := by decide +kernel
theorem d_Mo_reach_110 : decode b_Mo_reach 110 = .ok (.iload 4, 2) := by decide +kernel
theorem d_Mo_reach_112 : decode b_Mo_reach 112 = .ok (.iaload, 1) := by decide +kernel
theorem d_Mo_reach_113 : decode b_Mo_reach 113 = .ok (.istore 5, 2) := by decide +kernel
theorem d_Mo_reach_115 : decode b_Mo_reach 115 = .ok (.iconst 0, 1) := by decide +kernel
theorem d_Mo_reach_116 : decode b_Mo_reach 116 = .ok (.istore 6, 2) := by decide +kernel
theorem d_Mo_reach_118 : decode b_Mo_reach 118 = .ok (.iload 6, 2) := by decide +kernel
theorem d_Mo_reach_120 : decode b_Mo_reach 120 = .ok (.aload_n 0, 1) := by decide +kernel
theorem d_Mo_reach_121 : decode b_Mo_reach 121 = .ok (.getfield 522, 3) := by decide +kernel
theorem d_Mo_reach_124 : decode b_Mo_reach 124 = .ok (.getfield 465, 3) := by decide +kernel
theorem d_Mo_reach_127 : decode b_Mo_reach 127 = .ok (.iload 5, 2) := by decide +kernel
theorem d_Mo_reach_129 : decode b_Mo_reach 129 = .ok (.iaload, 1) := by decide +kernel
theorem d_Mo_reach_130 : decode b_Mo_reach 130 = .ok (.if_icmp .ge 28, 3) := by decide +kernel
theorem d_Mo_reach_133 : decode b_Mo_reach 133 = .ok (.aload_n 0, 1) := by decide +kernel
theorem d_Mo_reach_134 : decode b_Mo_reach 134 = .ok (.iload 5, 2) := by decide +kernel
theorem d_Mo_reach_136 : decode b_Mo_reach 136 = .ok (.aload_n 0, 1) := by decide +kernel
theorem d_Mo_reach_137 : decode b_Mo_reach 137 = .ok (.getfield 522, 3) := by decide +kernel
theorem d_Mo_reach_140 : decode b_Mo_reach 140 = .ok (.getfield 462, 3) := by decide +kernel
theorem d_Mo_reach_143 : decode b_Mo_reach 143 = .ok (.iload 5, 2) := by decide +kernel
theorem d_Mo_reach_145 : decode b_Mo_reach 145 = .ok (.iaload, 1) := by decide +kernel
theorem d_Mo_reach_146 : decode b_Mo_reach 146 = .ok (.iload 6, 2) := by decide +kernel
theorem d_Mo_reach_148 : decode b_Mo_reach 148 = .ok (.iadd, 1) := by decide +kernel
theorem d_Mo_reach_149 : decode b_Mo_reach 149 = .ok (.invokevirtual 1297, 3) := by decide +kernel
theorem d_Mo_reach_152 : decode b_Mo_reach 152 = .ok (.iinc 6 1, 3) := by decide +kernel
theorem d_Mo_reach_155 : decode b_Mo_reach 155 = .ok (.goto (-37), 3) := by decide +kernel
theorem d_Mo_reach_158 : decode b_Mo_reach 158 = .ok (.iinc 4 1, 3) := by decide +kernel
theorem d_Mo_reach_161 : decode b_Mo_reach 161 = .ok (.goto (-64), 3) := by decide +kernel
theorem d_Mo_reach_164 : decode b_Mo_reach 164 = .ok (.aload_n 0, 1) := by decide +kernel
theorem d_Mo_reach_165 : decode b_Mo_reach 165 = .ok (.getfield 1288, 3) := by decide +kernel
theorem d_Mo_reach_168 : decode b_Mo_reach 168 = .ok (.ireturn, 1) := by decide +kernel
abbrev ru_Mo_reach : Room := { frames := 473, cells := 0, slots := 0, locals := 11513 }
def wj_Mo_reach_28 (y : Ly) (Post : St → Int32 → Prop) (a0 : Nat) (s_j28 : St) : Prop := Post s_j28 (-1)
def wb_Mo_reach_118 (y : Ly) (Post : St → Int32 → Prop) (K_97 : St → Int32 → Prop) (K_118 : St → Int32 → Int32 → Int32 → Prop) (a0 : Nat) (s_h118 : St) (x4h118 : Int32) (x5h118 : Int32) (x6h118 : Int32) : Prop := ∃ b_13 : Nat, sO s_h118 a0 45 = some b_13 ∧ cl b_13 = 13 ∧ xA y s_h118 b_13 24 x5h118 (fun x_16 : Int32 => ((x_16 ≤ x6h118 → K_97 s_h118 (x4h118 + 1)) ∧ (¬ (x_16 ≤ x6h118) → xA y s_h118 b_13 23 x5h118 (fun x_17 : Int32 => wu_Mo_reachFrom y (fun (s_19 : St) => K_118 s_19 x4h118 x5h118 (x6h118 + 1)) s_h118 a0 x5h118 (x_17 + x6h118)))))
def wl_Mo_reach_118 (y : Ly) (Post : St → Int32 → Prop) (K_97 : St → Int32 → Prop) (a0 : Nat) (s_h118 : St) (x4h118 : Int32) (x5h118 : Int32) (x6h118 : Int32) : Prop := ∃ (I : St → Int32 → Int32 → Int32 → Prop) (μ : St → Int32 → Int32 → Int32 → Nat), I s_h118 x4h118 x5h118 x6h118 ∧ ∀ (u : St) (t0 : Int32) (t1 : Int32) (t2 : Int32), I u t0 t1 t2 → wb_Mo_reach_118 y Post K_97 (fun z t0q t1q t2q => I z t0q t1q t2q ∧ μ z t0q t1q t2q < μ u t0 t1 t2) a0 u t0 t1 t2
def wb_Mo_reach_97 (y : Ly) (Post : St → Int32 → Prop) (K_97 : St → Int32 → Prop) (a0 : Nat) (s_h97 : St) (x4h97 : Int32) : Prop := (((sV s_h97 a0 109) ≤ x4h97 → Post s_h97 (sV s_h97 a0 109)) ∧ (¬ ((sV s_h97 a0 109) ≤ x4h97) → xA y s_h97 a0 107 x4h97 (fun x_12 : Int32 => wl_Mo_reach_118 y Post K_97 a0 s_h97 x4h97 x_12 0)))
def wl_Mo_reach_97 (y : Ly) (Post : St → Int32 → Prop) (a0 : Nat) (s_h97 : St) (x4h97 : Int32) : Prop := ∃ (I : St → Int32 → Prop) (μ : St → Int32 → Nat), I s_h97 x4h97 ∧ ∀ (u : St) (t0 : Int32), I u t0 → wb_Mo_reach_97 y Post (fun z t0q => I z t0q ∧ μ z t0q < μ u t0) a0 u t0
def wb_Mo_reach_43 (y : Ly) (Post : St → Int32 → Prop) (K_43 : St → Int32 → Int32 → Int32 → Prop) (a0 : Nat) (s_h43 : St) (x2h43 : Int32) (x3h43 : Int32) (x4h43 : Int32) : Prop := ((612 ≤ x4h43 → xS y s_h43 a0 107 0 ((12 * x2h43) + x3h43) (fun s_9 : St => xS y s_9 a0 108 ((12 * x2h43) + x3h43) (vp_nar .boolean 1) (fun s_10 : St => xP (uV s_10 a0 109 1) (fun s_11 : St => wl_Mo_reach_97 y Post a0 s_11 0)))) ∧ (¬ (612 ≤ x4h43) → xS y s_h43 a0 108 x4h43 (vp_nar .boolean 0) (fun s_20 : St => K_43 s_20 x2h43 x3h43 (x4h43 + 1))))
def wl_Mo_reach_43 (y : Ly) (Post : St → Int32 → Prop) (a0 : Nat) (s_h43 : St) (x2h43 : Int32) (x3h43 : Int32) (x4h43 : Int32) : Prop := ∃ (I : St → Int32 → Int32 → Int32 → Prop) (μ : St → Int32 → Int32 → Int32 → Nat), I s_h43 x2h43 x3h43 x4h43 ∧ ∀ (u : St) (t0 : Int32) (t1 : Int32) (t2 : Int32), I u t0 t1 t2 → wb_Mo_reach_43 y Post (fun z t0q t1q t2q => I z t0q t1q t2q ∧ μ z t0q t1q t2q < μ u t0 t1 t2) a0 u t0 t1 t2
def wu_Mo_reach (y : Ly) (Post : St → Int32 → Prop) (σ : St) (a0 : Nat) (v1 : Int32) (v2 : Int32) (v3 : Int32) : Prop := wu_Mo_isClass y (fun (s_2 : St) (r_1 : Int32) => ((r_1 = 0 → wj_Mo_reach_28 y Post a0 s_2) ∧ (¬ (r_1 = 0) → ((v3 < 0 → wj_Mo_reach_28 y Post a0 s_2) ∧ (¬ (v3 < 0) → xQ y a0 44 v1 (fun b_3 : Nat => xA y s_2 b_3 9 v2 (fun x_5 : Int32 => ((v3 < x_5 → xQ y a0 44 v1 (fun b_6 : Nat => xP (uO s_2 a0 45 (some b_6)) (fun s_8 : St => wl_Mo_reach_43 y Post a0 s_8 v2 v3 0))) ∧ (¬ (v3 < x_5) → wj_Mo_reach_28 y Post a0 s_2))))))))) σ a0 v1 v2
set_option maxHeartbeats 4000000 in
set_option maxRecDepth 100000 in
theorem cu_Mo_reach (l : Launch) (D : va_G) (g : Nat → ClassId) (ad : Nat → Nat) (y : Ly) (Post : St → Int32 → Prop) (σ : St) (a0 : Nat) (v1 : Int32) (v2 : Int32) (v3 : Int32) (sz : Nat) (h_a0 : cl a0 = 14) (h : wu_Mo_reach y Post σ a0 v1 v2 v3) : Met l y_Mo_reach (mw y_Mo_reach b_Mo_reach 7 (some .int)) ru_Mo_reach (PC g D [] [.ref (ad a0), .int v1, .int v2, .int v3] sz (ws g ad y σ)) (va_Qi (fun (r : Int32) (u : St) => Post u r) (QW D (va_A (ws g ad y σ) sz) (fun u => ws g ad y u)) (va_A (ws g ad y σ) sz)) 0 0 (va_A (ws g ad y σ) sz) := by
  refine ofI (by decide +kernel) (Nat.le_of_ble_eq_true rfl) ?_
  intro p e s m args below meth c A Q ls H locs G hsz hP hD hS hl hret
  subst hsz
  have hl : lv_has ls 7 [(0, .ref (ad a0)), (1, .int v1), (2, .int v2), (3, .int v3)] := hl
  unfold wu_Mo_reach at h
  refine lv_aload_n G.1 G.2.1 d_Mo_reach_0 rfl (lv_at hl 0 rfl) ?_
  refine lv_iload_n G.1 G.2.1 d_Mo_reach_1 rfl (lv_at hl 1 rfl) ?_
  refine lv_iload_n G.1 G.2.1 d_Mo_reach_2 rfl (lv_at hl 2 rfl) ?_
  refine ucVi (As := [.int v1, .int v2]) (rest := []) G hP hD hS (cu_Mo_isClass l D g ad y _ σ a0 v1 v2 H.size h_a0 h) w9_Mo_isClass q3661 ⟨Nat.le_of_ble_eq_true rfl, Nat.le_of_ble_eq_true rfl⟩ rfl rfl h_a0 (q := (RMo, TMo, 131)) rfl rfl hl.1 rfl (Nat.le_of_ble_eq_true rfl) rfl ⟨Nat.le_refl _, Nat.le_refl _⟩ d_Mo_reach_3 (fun r_1 s_2 H locs h hP hD hS => ?_)
  have J_28 : ∀ (s_j28 : St) (H : Heap) (locs : List Loc), wj_Mo_reach_28 y Post a0 s_j28 → va_P D CL (ws g ad y s_j28) H → va_D A (ws g ad y s_j28) → va_S A s.heap H locs → ∀ ls, lv_has ls 7 [] → W p l e ru_Mo_reach s m args below meth c H locs 0 0 Q (F0 m 28 ls []) := by
    intro s_j28 H locs h hP hD hS ls hl
    unfold wj_Mo_reach_28 at h
    refine lv_iconst (v := (-1)) G.1 G.2.1 d_Mo_reach_28 (by decide) ?_
    exact hret _ _ _ _ _ _ _ ls h hP hD hS (Nat.le_refl _) (Nat.le_refl _) d_Mo_reach_29
  refine lv_if_eq (tgt := 28) G.1 G.2.1 d_Mo_reach_6 (by decide) (fun c6 => ?_) (fun c6 => ?_)
  · skip
    have h := h.1 c6
    exact J_28 s_2 H locs h hP hD hS ls (lv_sub hl [] rfl)
  · skip
    have h := h.2 c6
    refine lv_iload_n G.1 G.2.1 d_Mo_reach_9 rfl (lv_at hl 3 rfl) ?_
    refine lv_if_lt (tgt := 28) G.1 G.2.1 d_Mo_reach_10 (by decide) (fun c10 => ?_) (fun c10 => ?_)
    · skip
      have h := h.1 c10
      exact J_28 s_2 H locs h hP hD hS ls (lv_sub hl [] rfl)
    · skip
      have h := h.2 c10
      refine lv_iload_n G.1 G.2.1 d_Mo_reach_13 rfl (lv_at hl 3 rfl) ?_
      refine lv_aload_n G.1 G.2.1 d_Mo_reach_14 rfl (lv_at hl 0 rfl) ?_
      refine ugf (v := .ref (yP y a0 44)) G hP h_a0 iMo rfl 44 (by decide) rfl q3108 rfl rfl d_Mo_reach_15 ?_
      refine lv_iload_n G.1 G.2.1 d_Mo_reach_18 rfl (lv_at hl 1 rfl) ?_
      refine W.eq (g2 := F0 m 19 ls [.int v1, .ref (yP y a0 44), .int v3]) rfl ?_
      refine uqald G hP (kdp h_a0 rfl) (typ h_a0 rfl) rfl h d_Mo_reach_19 (fun b_3 n_4 h => ?_)
      refine ugfN (v := .ref (yP y b_3 9)) G hP (oa_14 h_a0 n_4) iMw rfl 9 (by decide) rfl q2722 rfl rfl d_Mo_reach_20 ?_
      refine lv_iload_n G.1 G.2.1 d_Mo_reach_23 rfl (lv_at hl 2 rfl) ?_
      refine uiald G hP (kdp (oa_14 h_a0 n_4) rfl) (typ (oa_14 h_a0 n_4) rfl) h d_Mo_reach_24 (fun x_5 h => ?_)
      refine lv_icmp_lt (tgt := 30) G.1 G.2.1 d_Mo_reach_25 (by decide) (fun c25 => ?_) (fun c25 => ?_)
      · skip
        have h := h.1 c25
        refine lv_aload_n G.1 G.2.1 d_Mo_reach_30 rfl (lv_at hl 0 rfl) ?_
        refine lv_aload_n G.1 G.2.1 d_Mo_reach_31 rfl (lv_at hl 0 rfl) ?_
        refine ugf (v := .ref (yP y a0 44)) G hP h_a0 iMo rfl 44 (by decide) rfl q3108 rfl rfl d_Mo_reach_32 ?_
        refine lv_iload_n G.1 G.2.1 d_Mo_reach_35 rfl (lv_at hl 1 rfl) ?_
        refine uqald G hP (kdp h_a0 rfl) (typ h_a0 rfl) rfl h d_Mo_reach_36 (fun b_6 n_7 h => ?_)
        refine upf G hP hD hS h 45 putO h_a0 iMo tMo tMo_ok nMo rfl (by decide) rfl q3109 rfl rfl fO rfl rfl d_Mo_reach_37 (fun s_8 H locs h hP hD hS => ?_)
        refine lv_iconst (v := 0) G.1 G.2.1 d_Mo_reach_40 (by decide) ?_
        refine W.eq (g2 := F0 m 41 ls [.int 0]) rfl ?_
        refine lv_istore (lv' := [(4, .int 0), (0, .ref (ad a0)), (1, .int v1), (2, .int v2), (3, .int v3)]) G.1 G.2.1 d_Mo_reach_41 hl (by decide) rfl (fun ls hl => ?_)
        unfold wl_Mo_reach_43 at h
        obtain ⟨I_43, μ_43, hI_43, hB_43⟩ := h
        have L_43 : ∀ (n_43 : Nat) (s_h43 : St) (x2h43 : Int32) (x3h43 : Int32) (x4h43 : Int32), μ_43 s_h43 x2h43 x3h43 x4h43 < n_43 → I_43 s_h43 x2h43 x3h43 x4h43 → ∀ (H : Heap) (locs : List Loc), va_P D CL (ws g ad y s_h43) H → va_D A (ws g ad y s_h43) → va_S A s.heap H locs → ∀ ls, lv_has ls 7 [(0, .ref (ad a0)), (2, .int x2h43), (3, .int x3h43), (4, .int x4h43)] → W p l e ru_Mo_reach s m args below meth c H locs 0 0 Q (F0 m 43 ls []) := by
          intro n_43
          induction n_43 with
          | zero => intro s_h43 x2h43 x3h43 x4h43 hμ; exact absurd hμ (Nat.not_lt_zero _)
          | succ n_43 ih_43 =>
            intro s_h43 x2h43 x3h43 x4h43 hμ_43 hJ H locs hP hD hS ls hl
            obtain ⟨K_43, hK_43, h⟩ : ∃ K : St → Int32 → Int32 → Int32 → Prop, (∀ z (t0 : Int32) (t1 : Int32) (t2 : Int32), K z t0 t1 t2 → I_43 z t0 t1 t2 ∧ μ_43 z t0 t1 t2 < μ_43 s_h43 x2h43 x3h43 x4h43) ∧ wb_Mo_reach_43 y Post K a0 s_h43 x2h43 x3h43 x4h43 := ⟨_, fun _ _ _ _ h => h, hB_43 s_h43 x2h43 x3h43 x4h43 hJ⟩
            unfold wb_Mo_reach_43 at h
            refine lv_iload G.1 G.2.1 d_Mo_reach_43 (lv_at hl 3 rfl) ?_
            refine lv_sipush (v := 612) G.1 G.2.1 d_Mo_reach_45 (by decide) ?_
            refine lv_icmp_ge (tgt := 65) G.1 G.2.1 d_Mo_reach_48 (by decide) (fun c48 => ?_) (fun c48 => ?_)
            · skip
              have h := h.1 c48
              refine lv_aload_n G.1 G.2.1 d_Mo_reach_65 rfl (lv_at hl 0 rfl) ?_
              refine ugf (v := .ref (yP y a0 107)) G hP h_a0 iMo rfl 107 (by decide) rfl q3171 rfl rfl d_Mo_reach_66 ?_
              refine lv_iconst (v := 0) G.1 G.2.1 d_Mo_reach_69 (by decide) ?_
              refine lv_bipush (v := 12) G.1 G.2.1 d_Mo_reach_70 (by decide) ?_
              refine lv_iload_n G.1 G.2.1 d_Mo_reach_72 rfl (lv_at hl 1 rfl) ?_
              refine lv_imul G.1 G.2.1 d_Mo_reach_73 ?_
              refine lv_iload_n G.1 G.2.1 d_Mo_reach_74 rfl (lv_at hl 2 rfl) ?_
              refine lv_iadd G.1 G.2.1 d_Mo_reach_75 ?_
              refine W.eq (g2 := F0 m 76 ls [.int ((12 * x2h43) + x3h43), .int 0, .ref (yP y a0 107)]) rfl ?_
              refine uiast G hP hD hS (kdp h_a0 rfl) (typ h_a0 rfl) h d_Mo_reach_76 (fun s_9 H locs h hP hD hS => ?_)
              refine lv_aload_n G.1 G.2.1 d_Mo_reach_77 rfl (lv_at hl 0 rfl) ?_
              refine ugf (v := .ref (yP y a0 108)) G hP h_a0 iMo rfl 108 (by decide) rfl q3172 rfl rfl d_Mo_reach_78 ?_
              refine lv_bipush (v := 12) G.1 G.2.1 d_Mo_reach_81 (by decide) ?_
              refine lv_iload_n G.1 G.2.1 d_Mo_reach_83 rfl (lv_at hl 1 rfl) ?_
              refine lv_imul G.1 G.2.1 d_Mo_reach_84 ?_
              refine lv_iload_n G.1 G.2.1 d_Mo_reach_85 rfl (lv_at hl 2 rfl) ?_
              refine lv_iadd G.1 G.2.1 d_Mo_reach_86 ?_
              refine lv_iconst (v := 1) G.1 G.2.1 d_Mo_reach_87 (by decide) ?_
              refine uzast G hP hD hS (kdp h_a0 rfl) (typ h_a0 rfl) h d_Mo_reach_88 (fun s_10 H locs h hP hD hS => ?_)
              refine lv_aload_n G.1 G.2.1 d_Mo_reach_89 rfl (lv_at hl 0 rfl) ?_
              refine lv_iconst (v := 1) G.1 G.2.1 d_Mo_reach_90 (by decide) ?_
              refine W.eq (g2 := F0 m 91 ls [.int 1, .ref (ad a0)]) rfl ?_
              refine upf G hP hD hS h 109 putV h_a0 iMo tMo tMo_ok nMo rfl (by decide) rfl q3173 rfl rfl fV rfl rfl d_Mo_reach_91 (fun s_11 H locs h hP hD hS => ?_)
              refine lv_iconst (v := 0) G.1 G.2.1 d_Mo_reach_94 (by decide) ?_
              refine lv_istore (lv' := [(4, .int 0), (0, .ref (ad a0)), (2, .int x2h43), (3, .int x3h43)]) G.1 G.2.1 d_Mo_reach_95 hl (by decide) rfl (fun ls hl => ?_)
              unfold wl_Mo_reach_97 at h
              obtain ⟨I_97, μ_97, hI_97, hB_97⟩ := h
              have L_97 : ∀ (n_97 : Nat) (s_h97 : St) (x4h97 : Int32), μ_97 s_h97 x4h97 < n_97 → I_97 s_h97 x4h97 → ∀ (H : Heap) (locs : List Loc), va_P D CL (ws g ad y s_h97) H → va_D A (ws g ad y s_h97) → va_S A s.heap H locs → ∀ ls, lv_has ls 7 [(0, .ref (ad a0)), (4, .int x4h97)] → W p l e ru_Mo_reach s m args below meth c H locs 0 0 Q (F0 m 97 ls []) := by
                intro n_97
                induction n_97 with
                | zero => intro s_h97 x4h97 hμ; exact absurd hμ (Nat.not_lt_zero _)
                | succ n_97 ih_97 =>
                  intro s_h97 x4h97 hμ_97 hJ H locs hP hD hS ls hl
                  obtain ⟨K_97, hK_97, h⟩ : ∃ K : St → Int32 → Prop, (∀ z (t0 : Int32), K z t0 → I_97 z t0 ∧ μ_97 z t0 < μ_97 s_h97 x4h97) ∧ wb_Mo_reach_97 y Post K a0 s_h97 x4h97 := ⟨_, fun _ _ h => h, hB_97 s_h97 x4h97 hJ⟩
                  unfold wb_Mo_reach_97 at h
                  refine lv_iload G.1 G.2.1 d_Mo_reach_97 (lv_at hl 1 rfl) ?_
                  refine lv_aload_n G.1 G.2.1 d_Mo_reach_99 rfl (lv_at hl 0 rfl) ?_
                  refine ugf (v := .int (sV s_h97 a0 109)) G hP h_a0 iMo rfl 109 (by decide) rfl q3173 rfl rfl d_Mo_reach_100 ?_
                  refine lv_icmp_ge (tgt := 164) G.1 G.2.1 d_Mo_reach_103 (by decide) (fun c103 => ?_) (fun c103 => ?_)
                  · skip
                    have h := h.1 c103
                    refine lv_aload_n G.1 G.2.1 d_Mo_reach_164 rfl (lv_at hl 0 rfl) ?_
                    refine ugf (v := .int (sV s_h97 a0 109)) G hP h_a0 iMo rfl 109 (by decide) rfl q3173 rfl rfl d_Mo_reach_165 ?_
                    exact hret _ _ _ _ _ _ _ ls h hP hD hS (Nat.le_refl _) (Nat.le_refl _) d_Mo_reach_168
                  · skip
                    have h := h.2 c103
                    refine lv_aload_n G.1 G.2.1 d_Mo_reach_106 rfl (lv_at hl 0 rfl) ?_
                    refine ugf (v := .ref (yP y a0 107)) G hP h_a0 iMo rfl 107 (by decide) rfl q3171 rfl rfl d_Mo_reach_107 ?_
                    refine lv_iload G.1 G.2.1 d_Mo_reach_110 (lv_at hl 1 rfl) ?_
                    refine uiald G hP (kdp h_a0 rfl) (typ h_a0 rfl) h d_Mo_reach_112 (fun x_12 h => ?_)
                    refine lv_istore (lv' := [(5, .int x_12), (0, .ref (ad a0)), (4, .int x4h97)]) G.1 G.2.1 d_Mo_reach_113 hl (by decide) rfl (fun ls hl => ?_)
                    refine lv_iconst (v := 0) G.1 G.2.1 d_Mo_reach_115 (by decide) ?_
                    refine lv_istore (lv' := [(6, .int 0), (5, .int x_12), (0, .ref (ad a0)), (4, .int x4h97)]) G.1 G.2.1 d_Mo_reach_116 hl (by decide) rfl (fun ls hl => ?_)
                    unfold wl_Mo_reach_118 at h
                    obtain ⟨I_118, μ_118, hI_118, hB_118⟩ := h
                    have L_118 : ∀ (n_118 : Nat) (s_h118 : St) (x4h118 : Int32) (x5h118 : Int32) (x6h118 : Int32), μ_118 s_h118 x4h118 x5h118 x6h118 < n_118 → I_118 s_h118 x4h118 x5h118 x6h118 → ∀ (H : Heap) (locs : List Loc), va_P D CL (ws g ad y s_h118) H → va_D A (ws g ad y s_h118) → va_S A s.heap H locs → ∀ ls, lv_has ls 7 [(0, .ref (ad a0)), (4, .int x4h118), (5, .int x5h118), (6, .int x6h118)] → W p l e ru_Mo_reach s m args below meth c H locs 0 0 Q (F0 m 118 ls []) := by
                      intro n_118
                      induction n_118 with
                      | zero => intro s_h118 x4h118 x5h118 x6h118 hμ; exact absurd hμ (Nat.not_lt_zero _)
                      | succ n_118 ih_118 =>
                        intro s_h118 x4h118 x5h118 x6h118 hμ_118 hJ H locs hP hD hS ls hl
                        obtain ⟨K_118, hK_118, h⟩ : ∃ K : St → Int32 → Int32 → Int32 → Prop, (∀ z (t0 : Int32) (t1 : Int32) (t2 : Int32), K z t0 t1 t2 → I_118 z t0 t1 t2 ∧ μ_118 z t0 t1 t2 < μ_118 s_h118 x4h118 x5h118 x6h118) ∧ wb_Mo_reach_118 y Post K_97 K a0 s_h118 x4h118 x5h118 x6h118 := ⟨_, fun _ _ _ _ h => h, hB_118 s_h118 x4h118 x5h118 x6h118 hJ⟩
                        unfold wb_Mo_reach_118 at h
                        refine lv_iload G.1 G.2.1 d_Mo_reach_118 (lv_at hl 3 rfl) ?_
                        refine lv_aload_n G.1 G.2.1 d_Mo_reach_120 rfl (lv_at hl 0 rfl) ?_
                        obtain ⟨b_13, e_14, c_15, h⟩ := h
                        refine ugf (v := .ref (ad b_13)) G hP h_a0 iMo rfl 45 (by decide) rfl q3109 rfl (by show va_rf ((sO s_h118 a0 45).map ad) = _; rw [e_14]; rfl) d_Mo_reach_121 ?_
                        refine ugfN (v := .ref (yP y b_13 24)) G hP c_15 iMw rfl 24 (by decide) rfl q2752 rfl rfl d_Mo_reach_124 ?_
                        refine lv_iload G.1 G.2.1 d_Mo_reach_127 (lv_at hl 2 rfl) ?_
                        refine uiald G hP (kdp c_15 rfl) (typ c_15 rfl) h d_Mo_reach_129 (fun x_16 h => ?_)
                        refine lv_icmp_ge (tgt := 158) G.1 G.2.1 d_Mo_reach_130 (by decide) (fun c130 => ?_) (fun c130 => ?_)
                        · skip
                          have h := h.1 c130
                          refine lv_iinc (v := x4h118 + 1) (lv' := [(4, .int (x4h118 + 1)), (0, .ref (ad a0)), (5, .int x5h118), (6, .int x6h118)]) G.1 G.2.1 d_Mo_reach_158 hl (k := 1) rfl rfl (by decide) rfl (fun ls hl => ?_)
                          refine lv_goto (tgt := 97) G.1 G.2.1 d_Mo_reach_161 (by decide) ?_
                          have h := hK_97 s_h118 (x4h118 + 1) h
                          exact ih_97 s_h118 (x4h118 + 1) (Nat.lt_of_lt_of_le h.2 (Nat.le_of_lt_succ hμ_97)) h.1 H locs hP hD hS ls (lv_sub hl [1, 0] rfl)
                        · skip
                          have h := h.2 c130
                          refine lv_aload_n G.1 G.2.1 d_Mo_reach_133 rfl (lv_at hl 0 rfl) ?_
                          refine lv_iload G.1 G.2.1 d_Mo_reach_134 (lv_at hl 2 rfl) ?_
                          refine lv_aload_n G.1 G.2.1 d_Mo_reach_136 rfl (lv_at hl 0 rfl) ?_
                          refine ugf (v := .ref (ad b_13)) G hP h_a0 iMo rfl 45 (by decide) rfl q3109 rfl (by show va_rf ((sO s_h118 a0 45).map ad) = _; rw [e_14]; rfl) d_Mo_reach_137 ?_
                          refine W.eq (g2 := F0 m 140 ls [.ref (ad b_13), .int x5h118, .ref (ad a0)]) rfl ?_
                          refine ugfN (v := .ref (yP y b_13 23)) G hP c_15 iMw rfl 23 (by decide) rfl q2750 rfl rfl d_Mo_reach_140 ?_
                          refine lv_iload G.1 G.2.1 d_Mo_reach_143 (lv_at hl 2 rfl) ?_
                          refine uiald G hP (kdp c_15 rfl) (typ c_15 rfl) h d_Mo_reach_145 (fun x_17 h => ?_)
                          refine lv_iload G.1 G.2.1 d_Mo_reach_146 (lv_at hl 3 rfl) ?_
                          refine lv_iadd G.1 G.2.1 d_Mo_reach_148 ?_
                          refine ucVv (As := [.int x5h118, .int (x_17 + x6h118)]) (rest := []) G hP hD hS (cu_Mo_reachFrom l D g ad y _ s_h118 a0 x5h118 (x_17 + x6h118) H.size h_a0 h) w9_Mo_reachFrom q4169 ⟨Nat.le_of_ble_eq_true rfl, Nat.le_of_ble_eq_true rfl⟩ rfl rfl h_a0 (q := (RMo, TMo, 131)) rfl rfl hl.1 rfl (Nat.le_of_ble_eq_true rfl) rfl ⟨Nat.le_refl _, Nat.le_refl _⟩ d_Mo_reach_149 (fun s_19 H locs h hP hD hS => ?_)
                          refine lv_iinc (v := x6h118 + 1) (lv' := [(6, .int (x6h118 + 1)), (0, .ref (ad a0)), (4, .int x4h118), (5, .int x5h118)]) G.1 G.2.1 d_Mo_reach_152 hl (k := 3) rfl rfl (by decide) rfl (fun ls hl => ?_)
                          refine lv_goto (tgt := 118) G.1 G.2.1 d_Mo_reach_155 (by decide) ?_
                          have h := hK_118 s_19 x4h118 x5h118 (x6h118 + 1) h
                          exact ih_118 s_19 x4h118 x5h118 (x6h118 + 1) (Nat.lt_of_lt_of_le h.2 (Nat.le_of_lt_succ hμ_118)) h.1 H locs hP hD hS ls (lv_sub hl [1, 2, 3, 0] rfl)
                    exact L_118 _ s_h97 x4h97 x_12 0 (Nat.lt_succ_self _) hI_118 H locs hP hD hS ls (lv_sub hl [2, 3, 1, 0] rfl)
              exact L_97 _ s_11 0 (Nat.lt_succ_self _) hI_97 H locs hP hD hS ls (lv_sub hl [1, 0] rfl)
            · skip
              have h := h.2 c48
              refine lv_aload_n G.1 G.2.1 d_Mo_reach_51 rfl (lv_at hl 0 rfl) ?_
              refine ugf (v := .ref (yP y a0 108)) G hP h_a0 iMo rfl 108 (by decide) rfl q3172 rfl rfl d_Mo_reach_52 ?_
              refine lv_iload G.1 G.2.1 d_Mo_reach_55 (lv_at hl 3 rfl) ?_
              refine lv_iconst (v := 0) G.1 G.2.1 d_Mo_reach_57 (by decide) ?_
              refine uzast G hP hD hS (kdp h_a0 rfl) (typ h_a0 rfl) h d_Mo_reach_58 (fun s_20 H locs h hP hD hS => ?_)
              refine lv_iinc (v := x4h43 + 1) (lv' := [(4, .int (x4h43 + 1)), (0, .ref (ad a0)), (2, .int x2h43), (3, .int x3h43)]) G.1 G.2.1 d_Mo_reach_59 hl (k := 3) rfl rfl (by decide) rfl (fun ls hl => ?_)
              refine lv_goto (tgt := 43) G.1 G.2.1 d_Mo_reach_62 (by decide) ?_
              have h := hK_43 s_20 x2h43 x3h43 (x4h43 + 1) h
              exact ih_43 s_20 x2h43 x3h43 (x4h43 + 1) (Nat.lt_of_lt_of_le h.2 (Nat.le_of_lt_succ hμ_43)) h.1 H locs hP hD hS ls (lv_sub hl [1, 2, 3, 0] rfl)
        exact L_43 _ s_8 v2 v3 0 (Nat.lt_succ_self _) hI_43 H locs hP hD hS ls (lv_sub hl [1, 3, 4, 0] rfl)
      · skip
        have h := h.2 c25
        exact J_28 s_2 H locs h hP hD hS ls (lv_sub hl [] rfl)
def y_Mo_isWrittenSo : MethodName := ⟨"ClassWorksModel", "isWrittenSo", "(LClassWorksModel$World;ILClassWorksModel$World;I)Z"⟩
abbrev b_Mo_isWrittenSo : ByteArray := prog_14_method_189_code
theorem q3178 : Cond.fieldLink "ClassWorksModel" 365 "ClassWorksModel" "onePage" "[B" ∈ lw_ok := lw_okmem (List.mem_of_getElem? (i := 3178) (by decide +kernel)) rfl
theorem q3179 : Cond.fieldLink "ClassWorksModel" 368 "ClassWorksModel" "twoPage" "[B" ∈ lw_ok := lw_okmem (List.mem_of_getElem? (i := 3179) (by decide +kernel)) rfl
theorem d_Mo_isWrittenSo_0 : decode b_Mo_isWrittenSo 0 = .ok (.aload_n 0, 1) := by decide +kernel
theorem d_Mo_isWrittenSo_1 : decode b_Mo_isWrittenSo 1 = .ok (.getfield 323, 3) := by decide +kernel
theorem d_Mo_isWrittenSo_4 : decode b_Mo_isWrittenSo 4 = .ok (.astore 5, 2) := by decide +kernel
theorem d_Mo_isWrittenSo_6 : decode b_Mo_isWrittenSo 6 = .ok (.aload_n 0, 1) := by decide +kernel
theorem d_Mo_isWrittenSo_7 : decode b_Mo_isWrittenSo 7 = .ok (.getfield 1176, 3) := by decide +kernel
theorem d_Mo_isWrittenSo_10 : decode b_Mo_isWrittenSo 10 = .ok (.istore 6, 2) := by decide +kernel
theorem d_Mo_isWrittenSo_12 : decode b_Mo_isWrittenSo 12 = .ok (.aload_n 0, 1) := by decide +kernel
theorem d_Mo_isWrittenSo_13 : decode b_Mo_isWrittenSo 13 = .ok (.aload_n 0, 1) := by decide +kernel
theorem d_Mo_isWrittenSo_14 : decode b_Mo_isWrittenSo 14 = .ok (.getfield 365, 3) := by decide +kernel
theorem d_Mo_isWrittenSo_17 : decode b_Mo_isWrittenSo 17 = .ok (.putfield 323, 3) := by decide +kernel
theorem d_Mo_isWrittenSo_20 : decode b_Mo_isWrittenSo 20 = .ok (.aload_n 0, 1) := by decide +kernel
theorem d_Mo_isWrittenSo_21 : decode b_Mo_isWrittenSo 21 = .ok (.iconst 0, 1) := by decide +kernel
theorem d_Mo_isWrittenSo_22 : decode b_Mo_isWrittenSo 22 = .ok (.putfield 1176, 3) := by decide +kernel
theorem d_Mo_isWrittenSo_25 : decode b_Mo_isWrittenSo 25 = .ok (.aload_n 0, 1) := by decide +kernel
theorem d_Mo_isWrittenSo_26 : decode b_Mo_isWrittenSo 26 = .ok (.aload_n 1, 1) := by decide +kernel
theorem d_Mo_isWrittenSo_27 : decode b_Mo_isWrittenSo 27 = .ok (.putfield 522, 3) := by decide +kernel
theorem d_Mo_isWrittenSo_30 : decode b_Mo_isWrittenSo 30 = .ok (.aload_n 0, 1) := by decide +kernel
theorem d_Mo_isWrittenSo_31 : decode b_Mo_isWrittenSo 31 = .ok (.iload_n 2, 1) := by decide +kernel
theorem d_Mo_isWrittenSo_32 : decode b_Mo_isWrittenSo 32 = .ok (.invokevirtual 1223, 3) := by decide +kernel
theorem d_Mo_isWrittenSo_35 : decode b_Mo_isWrittenSo 35 = .ok (.aload_n 0, 1) := by decide +kernel
theorem d_Mo_isWrittenSo_36 : decode b_Mo_isWrittenSo 36 = .ok (.aload_n 0, 1) := by decide +kernel
theorem d_Mo_isWrittenSo_37 : decode b_Mo_isWrittenSo 37 = .ok (.getfield 323, 3) := by decide +kernel
theorem d_Mo_isWrittenSo_40 : decode b_Mo_isWrittenSo 40 = .ok (.putfield 365, 3) := by decide +kernel
theorem d_Mo_isWrittenSo_43 : decode b_Mo_isWrittenSo 43 = .ok (.aload_n 0, 1) := by decide +kernel
theorem d_Mo_isWrittenSo_44 : decode b_Mo_isWrittenSo 44 = .ok (.getfield 1176, 3) := by decide +kernel
theorem d_Mo_isWrittenSo_47 : decode b_Mo_isWrittenSo 47 = .ok (.istore 7, 2) := by decide +kernel
theorem d_Mo_isWrittenSo_49 : decode b_Mo_isWrittenSo 49 = .ok (.aload_n 0, 1) := by decide +kernel
theorem d_Mo_isWrittenSo_50 : decode b_Mo_isWrittenSo 50 = .ok (.aload_n 0, 1) := by decide +kernel
theorem d_Mo_isWrittenSo_51 : decode b_Mo_isWrittenSo 51 = .ok (.getfield 368, 3) := by decide +kernel
theorem d_Mo_isWrittenSo_54 : decode b_Mo_isWrittenSo 54 = .ok (.putfield 323, 3) := by decide +kernel
theorem d_Mo_isWrittenSo_57 : decode b_Mo_isWrittenSo 57 = .ok (.aload_n 0, 1) := by decide +kernel
theorem d_Mo_isWrittenSo_58 : decode b_Mo_isWrittenSo 58 = .ok (.iconst 0, 1) := by decide +kernel
theorem d_Mo_isWrittenSo_59 : decode b_Mo_isWrittenSo 59 = .ok (.putfield 1176, 3) := by decide +kernel
theorem d_Mo_isWrittenSo_62 : decode b_Mo_isWrittenSo 62 = .ok (.aload_n 0, 1) := by decide +kernel
theorem d_Mo_isWrittenSo_63 : decode b_Mo_isWrittenSo 63 = .ok (.aload_n 3, 1) := by decide +kernel
theorem d_Mo_isWrittenSo_64 : decode b_Mo_isWrittenSo 64 = .ok (.putfield 522, 3) := by decide +kernel
theorem d_Mo_isWrittenSo_67 : decode b_Mo_isWrittenSo 67 = .ok (.aload_n 0, 1) := by decide +kernel
theorem d_Mo_isWrittenSo_68 : decode b_Mo_isWrittenSo 68 = .ok (.iload 4, 2) := by decide +kernel
theorem d_Mo_isWrittenSo_70 : decode b_Mo_isWrittenSo 70 = .ok (.invokevirtual 1223, 3) := by decide +kernel
theorem d_Mo_isWrittenSo_73 : decode b_Mo_isWrittenSo 73 = .ok (.aload_n 0, 1) := by decide +kernel
theorem d_Mo_isWrittenSo_74 : decode b_Mo_isWrittenSo 74 = .ok (.aload_n 0, 1) := by decide +kernel
theorem d_Mo_isWrittenSo_75 : decode b_Mo_isWrittenSo 75 = .ok (.getfield 323, 3) := by decide +kernel
theorem d_Mo_isWrittenSo_78 : decode b_Mo_isWrittenSo 78 = .ok (.putfield 368, 3) := by decide +kernel
theorem d_Mo_isWrittenSo_81 : decode b_Mo_isWrittenSo 81 = .ok (.iload 7, 2) := by decide +kernel
theorem d_Mo_isWrittenSo_83 : decode b_Mo_isWrittenSo 83 = .ok (.aload_n 0, 1) := by decide +kernel
theorem d_Mo_isWrittenSo_84 : decode b_Mo_isWrittenSo 84 = .ok (.getfield 1176, 3) := by decide +kernel
theorem d_Mo_isWrittenSo_87 : decode b_Mo_isWrittenSo 87 = .ok (.if_icmp .ne 7, 3) := by decide +kernel
theorem d_Mo_isWrittenSo_90 : decode b_Mo_isWrittenSo 90 = .ok (.iconst 1, 1) := by decide +kernel
theorem d_Mo_isWrittenSo_91 : decode b_Mo_isWrittenSo 91 = .ok (.goto 4, 3) := by decide +kernel
theorem d_Mo_isWrittenSo_94 : decode b_Mo_isWrittenSo 94 = .ok (.iconst 0, 1) := by decide +kernel
theorem d_Mo_isWrittenSo_95 : decode b_Mo_isWrittenSo 95 = .ok (.istore 8, 2) := by decide +kernel
theorem d_Mo_isWrittenSo_97 : decode b_Mo_isWrittenSo 97 = .ok (.iconst 0, 1) := by decide +kernel
theorem d_Mo_isWrittenSo_98 : decode b_Mo_isWrittenSo 98 = .ok (.istore 9, 2) := by decide +kernel
theorem d_Mo_isWrittenSo_100 : decode b_Mo_isWrittenSo 100 = .ok (.iload 9, 2) := by decide +kernel
theorem d_Mo_isWrittenSo_102 : decode b_Mo_isWrittenSo 102 = .ok (.iload 7, 2) := by decide +kernel
theorem d_Mo_isWrittenSo_104 : decode b_Mo_isWrittenSo 104 = .ok (.if_icmp .ge 38, 3) := by decide +kernel
theorem d_Mo_isWrittenSo_107 : decode b_Mo_isWrittenSo 107 = .ok (.iload 8, 2) := by decide +kernel
theorem d_Mo_isWrittenSo_109 : decode b_Mo_isWrittenSo 109 = .ok (.ifCond .eq 33, 3) := by decide +kernel
theorem d_Mo_isWrittenSo_112 : decode b_Mo_isWrittenSo 112 = .ok (.aload_n 0, 1) := by decide +kernel
theorem d_Mo_isWrittenSo_113 : decode b_Mo_isWrittenSo 113 = .ok (.getfield 365, 3) := by decide +kernel
theorem d_Mo_isWrittenSo_116 : decode b_Mo_isWrittenSo 116 = .ok (.iload 9, 2) := by decide +kernel
theorem d_Mo_isWrittenSo_118 : decode b_Mo_isWrittenSo 118 = .ok (.baload, 1) := by decide +kernel
theorem d_Mo_isWrittenSo_119 : decode b_Mo_isWrittenSo 119 = .ok (.aload_n 0, 1) := by decide +kernel
theorem d_Mo_isWrittenSo_120 : decode b_Mo_isWrittenSo 120 = .ok (.getfield 368, 3) := by decide +kernel
theorem d_Mo_isWrittenSo_123 : decode b_Mo_isWrittenSo 123 = .ok (.iload 9, 2) := by decide +kernel
theorem d_Mo_isWrittenSo_125 : decode b_Mo_isWrittenSo 125 = .ok (.baload, 1) := by decide +kernel
theorem d_Mo_isWrittenSo_126 : decode b_Mo_isWrittenSo 126 = .ok (.if_icmp .ne 7, 3) := by decide +kernel
theorem d_Mo_isWrittenSo_129 : decode b_Mo_isWrittenSo 129 = .ok (.iconst 1, 1) := by decide +kernel
theorem d_Mo_isWrittenSo_130 : decode b_Mo_isWrittenSo 130 = .ok (.goto 4, 3) := by decide +kernel
theorem d_Mo_isWrittenSo_133 : decode b_Mo_isWrittenSo 133 = .ok (.iconst 0, 1) := by decide +kernel
theorem d_Mo_isWrittenSo_134 : decode b_Mo_isWrittenSo 134 = .ok (.istore 8, 2) := by decide +kernel
theorem d_Mo_isWrittenSo_136 : decode b_Mo_isWrittenSo 136 = .ok (.iinc 9 1, 3) := by decide +kernel
theorem d_Mo_isWrittenSo_139 : decode b_Mo_isWrittenSo 139 = .ok (.goto (-39), 3) := by decide +kernel
theorem d_Mo_isWrittenSo_142 : decode b_Mo_isWrittenSo 142 = .ok (.aload_n 0, 1) := by decide +kernel
theorem d_Mo_isWrittenSo_143 : decode b_Mo_isWrittenSo 143 = .ok (.aload 5, 2) := by decide +kernel
theorem d_Mo_isWrittenSo_145 : decode b_Mo_isWrittenSo 145 = .ok (.putfield 323, 3) := by decide +kernel
theorem d_Mo_isWrittenSo_148 : decode b_Mo_isWrittenSo 148 = .ok (.aload_n 0, 1) := by decide +kernel
theorem d_Mo_isWrittenSo_149 : decode b_Mo_isWrittenSo 149 = .ok (.iload 6, 2) := by decide +kernel
theorem d_Mo_isWrittenSo_151 : decode b_Mo_isWrittenSo 151 = .ok (.putfield 1176, 3) := by decide +kernel
theorem d_Mo_isWrittenSo_154 : decode b_Mo_isWrittenSo 154 = .ok (.iload 8, 2) := by decide +kernel
theorem d_Mo_isWrittenSo_156 : decode b_Mo_isWrittenSo 156 = .ok (.ireturn, 1) := by decide +kernel
abbrev ra_Mo_isWrittenSo (mc ms : Nat) : Room := { frames := 9, cells := mc, slots := ms, locals := 289 }
def wja_Mo_isWrittenSo_142 (mc ms : Nat) (Post : Ly → St → Int32 → Nat → Nat → Prop) (a0 : Nat) (a1 : Nat) (a3 : Nat) (y_j142 : Ly) (s_j142 : St) (d_j142 e_j142 : Nat) (x5j142 : Nat) (x5j142k : Nat) (x6j142 : Int32) (x8j142 : Int32) : Prop := (d_j142 ≤ mc ∧ e_j142 ≤ ms) ∧ (kd (cl x5j142) x5j142k = 2 ∧ tyx (cl x5j142) x5j142k = 1) ∧ xY y_j142 s_j142 a0 94 x5j142 x5j142k (fun (y_33 : Ly) (s_34 : St) => xP (uV s_34 a0 95 x6j142) (fun s_35 : St => (nb x8j142 ∧ Post y_33 s_35 x8j142 d_j142 e_j142)))
def wja_Mo_isWrittenSo_134 (mc ms : Nat) (Post : Ly → St → Int32 → Nat → Nat → Prop) (K_100 : Ly → St → Nat → Nat → Nat → Nat → Int32 → Int32 → Int32 → Int32 → Prop) (a0 : Nat) (a1 : Nat) (a3 : Nat) (y_j134 : Ly) (s_j134 : St) (d_j134 e_j134 : Nat) (x5j134 : Nat) (x5j134k : Nat) (x6j134 : Int32) (x7j134 : Int32) (x9j134 : Int32) (z0j134 : Int32) : Prop := (d_j134 ≤ mc ∧ e_j134 ≤ ms) ∧ (kd (cl x5j134) x5j134k = 2 ∧ tyx (cl x5j134) x5j134k = 1) ∧ K_100 y_j134 s_j134 d_j134 e_j134 x5j134 x5j134k x6j134 x7j134 z0j134 (x9j134 + 1)
def wba_Mo_isWrittenSo_100 (mc ms : Nat) (Post : Ly → St → Int32 → Nat → Nat → Prop) (K_100 : Ly → St → Nat → Nat → Nat → Nat → Int32 → Int32 → Int32 → Int32 → Prop) (a0 : Nat) (a1 : Nat) (a3 : Nat) (y_h100 : Ly) (s_h100 : St) (d_h100 e_h100 : Nat) (x5h100 : Nat) (x5h100k : Nat) (x6h100 : Int32) (x7h100 : Int32) (x8h100 : Int32) (x9h100 : Int32) : Prop := (d_h100 ≤ mc ∧ e_h100 ≤ ms) ∧ (kd (cl x5h100) x5h100k = 2 ∧ tyx (cl x5h100) x5h100k = 1) ∧ ((x7h100 ≤ x9h100 → wja_Mo_isWrittenSo_142 mc ms Post a0 a1 a3 y_h100 s_h100 d_h100 e_h100 x5h100 x5h100k x6h100 x8h100) ∧ (¬ (x7h100 ≤ x9h100) → ((x8h100 = 0 → wja_Mo_isWrittenSo_142 mc ms Post a0 a1 a3 y_h100 s_h100 d_h100 e_h100 x5h100 x5h100k x6h100 x8h100) ∧ (¬ (x8h100 = 0) → (kd (cl (sX s_h100 a0 114).1) (sX s_h100 a0 114).2 = 2 ∧ tyx (cl (sX s_h100 a0 114).1) (sX s_h100 a0 114).2 = 1) ∧ xA y_h100 s_h100 ((sX s_h100 a0 114).1) ((sX s_h100 a0 114).2) x9h100 (fun x_37 : Int32 => (kd (cl (sX s_h100 a0 115).1) (sX s_h100 a0 115).2 = 2 ∧ tyx (cl (sX s_h100 a0 115).1) (sX s_h100 a0 115).2 = 1) ∧ xA y_h100 s_h100 ((sX s_h100 a0 115).1) ((sX s_h100 a0 115).2) x9h100 (fun x_39 : Int32 => ((¬ x_37 = x_39 → wja_Mo_isWrittenSo_134 mc ms Post K_100 a0 a1 a3 y_h100 s_h100 d_h100 e_h100 x5h100 x5h100k x6h100 x7h100 x9h100 0) ∧ (x_37 = x_39 → wja_Mo_isWrittenSo_134 mc ms Post K_100 a0 a1 a3 y_h100 s_h100 d_h100 e_h100 x5h100 x5h100k x6h100 x7h100 x9h100 1))))))))
def wla_Mo_isWrittenSo_100 (mc ms : Nat) (Post : Ly → St → Int32 → Nat → Nat → Prop) (a0 : Nat) (a1 : Nat) (a3 : Nat) (y_h100 : Ly) (s_h100 : St) (d_h100 e_h100 : Nat) (x5h100 : Nat) (x5h100k : Nat) (x6h100 : Int32) (x7h100 : Int32) (x8h100 : Int32) (x9h100 : Int32) : Prop := ∃ (I : Ly → St → Nat → Nat → Nat → Nat → Int32 → Int32 → Int32 → Int32 → Prop) (μ : Ly → St → Nat → Nat → Nat → Nat → Int32 → Int32 → Int32 → Int32 → Nat), I y_h100 s_h100 d_h100 e_h100 x5h100 x5h100k x6h100 x7h100 x8h100 x9h100 ∧ ∀ (u1 : Ly) (u2 : St) (u3 u4 : Nat) (t0 : Nat) (t1 : Nat) (t2 : Int32) (t3 : Int32) (t4 : Int32) (t5 : Int32), I u1 u2 u3 u4 t0 t1 t2 t3 t4 t5 → wba_Mo_isWrittenSo_100 mc ms Post (fun z1 z2 z3 z4 t0q t1q t2q t3q t4q t5q => I z1 z2 z3 z4 t0q t1q t2q t3q t4q t5q ∧ μ z1 z2 z3 z4 t0q t1q t2q t3q t4q t5q < μ u1 u2 u3 u4 t0 t1 t2 t3 t4 t5) a0 a1 a3 u1 u2 u3 u4 t0 t1 t2 t3 t4 t5
def wja_Mo_isWrittenSo_95 (mc ms : Nat) (Post : Ly → St → Int32 → Nat → Nat → Prop) (a0 : Nat) (a1 : Nat) (a3 : Nat) (y_j95 : Ly) (s_j95 : St) (d_j95 e_j95 : Nat) (x5j95 : Nat) (x5j95k : Nat) (x6j95 : Int32) (x7j95 : Int32) (z0j95 : Int32) : Prop := (d_j95 ≤ mc ∧ e_j95 ≤ ms) ∧ (kd (cl x5j95) x5j95k = 2 ∧ tyx (cl x5j95) x5j95k = 1) ∧ wla_Mo_isWrittenSo_100 mc ms Post a0 a1 a3 y_j95 s_j95 d_j95 e_j95 x5j95 x5j95k x6j95 x7j95 z0j95 0
def wa_Mo_isWrittenSo (mc ms : Nat) (y : Ly) (Post : Ly → St → Int32 → Nat → Nat → Prop) (σ : St) (a0 : Nat) (a1 : Nat) (v2 : Int32) (a3 : Nat) (v4 : Int32) : Prop := (kd (cl (sX σ a0 114).1) (sX σ a0 114).2 = 2 ∧ tyx (cl (sX σ a0 114).1) (sX σ a0 114).2 = 1) ∧ xY y σ a0 94 ((sX σ a0 114).1) ((sX σ a0 114).2) (fun (y_2 : Ly) (s_3 : St) => yP y a0 94 = yP y_2 ((sX σ a0 114).1) ((sX σ a0 114).2) ∧ xP (uV s_3 a0 95 0) (fun s_5 : St => xP (uO s_5 a0 45 (some a1)) (fun s_6 : St => ∃ mc_12 ms_13 : Nat, (0 + mc_12 ≤ mc ∧ 0 + ms_13 ≤ ms) ∧ wa_Mo_putMethod mc_12 ms_13 y_2 (fun (y_9 : Ly) (s_8 : St) (d_10 e_11 : Nat) => (0 + d_10 ≤ mc ∧ 0 + e_11 ≤ ms) ∧ yP y_2 ((sX σ a0 114).1) ((sX σ a0 114).2) = yP y_9 ((sX σ a0 114).1) ((sX σ a0 114).2) ∧ xP (uX s_8 a0 114 (a0, 94)) (fun s_16 : St => (kd (cl (sX s_16 a0 115).1) (sX s_16 a0 115).2 = 2 ∧ tyx (cl (sX s_16 a0 115).1) (sX s_16 a0 115).2 = 1) ∧ xY y_9 s_16 a0 94 ((sX s_16 a0 115).1) ((sX s_16 a0 115).2) (fun (y_18 : Ly) (s_19 : St) => yP y_9 ((sX σ a0 114).1) ((sX σ a0 114).2) = yP y_18 ((sX σ a0 114).1) ((sX σ a0 114).2) ∧ xP (uV s_19 a0 95 0) (fun s_21 : St => xP (uO s_21 a0 45 (some a3)) (fun s_22 : St => ∃ mc_28 ms_29 : Nat, (0 + d_10 + mc_28 ≤ mc ∧ 0 + e_11 + ms_29 ≤ ms) ∧ wa_Mo_putMethod mc_28 ms_29 y_18 (fun (y_25 : Ly) (s_24 : St) (d_26 e_27 : Nat) => (0 + d_10 + d_26 ≤ mc ∧ 0 + e_11 + e_27 ≤ ms) ∧ yP y_18 ((sX σ a0 114).1) ((sX σ a0 114).2) = yP y_25 ((sX σ a0 114).1) ((sX σ a0 114).2) ∧ xP (uX s_24 a0 115 (a0, 94)) (fun s_32 : St => ((¬ (sV s_16 a0 95) = (sV s_32 a0 95) → wja_Mo_isWrittenSo_95 mc ms Post a0 a1 a3 y_25 s_32 (0 + d_10 + d_26) (0 + e_11 + e_27) ((sX σ a0 114).1) ((sX σ a0 114).2) (sV σ a0 95) (sV s_16 a0 95) 0) ∧ ((sV s_16 a0 95) = (sV s_32 a0 95) → wja_Mo_isWrittenSo_95 mc ms Post a0 a1 a3 y_25 s_32 (0 + d_10 + d_26) (0 + e_11 + e_27) ((sX σ a0 114).1) ((sX σ a0 114).2) (sV σ a0 95) (sV s_16 a0 95) 1)))) s_22 a0 v4))))) s_6 a0 v2)))
set_option maxHeartbeats 4000000 in
set_option maxRecDepth 100000 in
theorem ca_Mo_isWrittenSo (l : Launch) (D : va_G) (g : Nat → ClassId) (F : Nat → SL) (sl : List SL) (hF : SOK F sl) (ad : Nat → Nat) (mc ms : Nat) (y : Ly) (Post : Ly → St → Int32 → Nat → Nat → Prop) (σ : St) (a0 : Nat) (a1 : Nat) (v2 : Int32) (a3 : Nat) (v4 : Int32) (sz uz : Nat) (h_a0 : cl a0 = 14) (h_a1 : cl a1 = 13) (h_a3 : cl a3 = 13) (h : wa_Mo_isWrittenSo mc ms y Post σ a0 a1 v2 a3 v4) : Met l y_Mo_isWrittenSo (mw y_Mo_isWrittenSo b_Mo_isWrittenSo 10 (some (.boolean))) (ra_Mo_isWrittenSo mc ms) (PCu g D sl [.ref (ad a0), .ref (ad a1), .int v2, .ref (ad a3), .int v4] sz uz (ws g ad y σ)) (va_Qi (fun (r : Int32) (u : Ly × St × Nat × Nat) => Post u.1 u.2.1 r u.2.2.1 u.2.2.2) (QU D (va_A (ws g ad y σ) sz) (fun u => ws g ad u.1 u.2.1) sz uz (fun u => u.2.2.1) (fun u => u.2.2.2)) (va_A (ws g ad y σ) sz)) mc ms (va_A (ws g ad y σ) sz) := by
  refine ofZu (by decide +kernel) (Nat.le_of_ble_eq_true rfl) ?_
  intro p e s m args below meth c A Q ls H locs G hsz hP hD hS hl hret
  subst hsz
  have hl : lv_has ls 10 [(0, .ref (ad a0)), (1, .ref (ad a1)), (2, .int v2), (3, .ref (ad a3)), (4, .int v4)] := hl
  have hd : 0 ≤ mc ∧ 0 ≤ ms := ⟨Nat.zero_le _, Nat.zero_le _⟩
  unfold wa_Mo_isWrittenSo at h
  refine lv_aload_n G.1 G.2.1 d_Mo_isWrittenSo_0 rfl (lv_at hl 0 rfl) ?_
  refine ugf (v := .ref (yP y a0 94)) G hP h_a0 iMo rfl 94 (by decide) rfl q3158 rfl rfl d_Mo_isWrittenSo_1 ?_
  refine lv_astore (lv' := [(5, .ref (yP y a0 94)), (0, .ref (ad a0)), (1, .ref (ad a1)), (2, .int v2), (3, .ref (ad a3)), (4, .int v4)]) G.1 G.2.1 d_Mo_isWrittenSo_4 hl (by decide) rfl (fun ls hl => ?_)
  refine lv_aload_n G.1 G.2.1 d_Mo_isWrittenSo_6 rfl (lv_at hl 1 rfl) ?_
  refine ugf (v := .int (sV σ a0 95)) G hP h_a0 iMo rfl 95 (by decide) rfl q3159 rfl rfl d_Mo_isWrittenSo_7 ?_
  refine lv_istore (lv' := [(6, .int (sV σ a0 95)), (5, .ref (yP y a0 94)), (0, .ref (ad a0)), (1, .ref (ad a1)), (2, .int v2), (3, .ref (ad a3)), (4, .int v4)]) G.1 G.2.1 d_Mo_isWrittenSo_10 hl (by decide) rfl (fun ls hl => ?_)
  refine lv_aload_n G.1 G.2.1 d_Mo_isWrittenSo_12 rfl (lv_at hl 2 rfl) ?_
  refine lv_aload_n G.1 G.2.1 d_Mo_isWrittenSo_13 rfl (lv_at hl 2 rfl) ?_
  obtain ⟨n_1, h⟩ := h
  refine ugf (v := .ref (yP y ((sX σ a0 114).1) ((sX σ a0 114).2))) G hP h_a0 iMo rfl 114 (by decide) rfl q3178 rfl rfl d_Mo_isWrittenSo_14 ?_
  refine uyY G hP hD hS h (by decide) h_a0 rfl rfl n_1.1 n_1.2 iMo tMo tMo_ok nMo rfl (by decide) q3158 rfl rfl rfl rfl d_Mo_isWrittenSo_17 (fun y_2 s_3 H locs h hP hD hS => ?_)
  have hl := lv_sub (l' := [(6, .int (sV σ a0 95)), (5, .ref (yP y a0 94)), (0, .ref (ad a0)), (1, .ref (ad a1)), (2, .int v2), (3, .ref (ad a3)), (4, .int v4)]) hl [0, 1, 2, 3, 4, 5, 6] rfl
  obtain ⟨n_4, h⟩ := h
  rw [n_4] at hl
  refine lv_aload_n G.1 G.2.1 d_Mo_isWrittenSo_20 rfl (lv_at hl 2 rfl) ?_
  refine W.eq (g2 := F0 m 21 ls [.ref (ad a0)]) rfl ?_
  refine lv_iconst (v := 0) G.1 G.2.1 d_Mo_isWrittenSo_21 (by decide) ?_
  refine upf G hP hD hS h 95 putV h_a0 iMo tMo tMo_ok nMo rfl (by decide) rfl q3159 rfl rfl fV rfl rfl d_Mo_isWrittenSo_22 (fun s_5 H locs h hP hD hS => ?_)
  refine lv_aload_n G.1 G.2.1 d_Mo_isWrittenSo_25 rfl (lv_at hl 2 rfl) ?_
  refine lv_aload_n G.1 G.2.1 d_Mo_isWrittenSo_26 rfl (lv_at hl 3 rfl) ?_
  refine upf G hP hD hS h 45 putO h_a0 iMo tMo tMo_ok nMo rfl (by decide) rfl q3109 rfl rfl fO rfl rfl d_Mo_isWrittenSo_27 (fun s_6 H locs h hP hD hS => ?_)
  refine lv_aload_n G.1 G.2.1 d_Mo_isWrittenSo_30 rfl (lv_at hl 2 rfl) ?_
  refine lv_iload_n G.1 G.2.1 d_Mo_isWrittenSo_31 rfl (lv_at hl 4 rfl) ?_
  obtain ⟨mc_12, ms_13, hr_14, h⟩ := h
  refine utVv (As := [.int v2]) (rest := []) G hP hD hS (ca_Mo_putMethod l D g F sl hF ad mc_12 ms_13 y_2 _ s_6 a0 v2 H.size (us H) h_a0 h) w9_Mo_putMethod q4085 ⟨Nat.le_of_ble_eq_true rfl, Nat.le_of_ble_eq_true rfl⟩ rfl rfl h_a0 (q := (RMo, TMo, 131)) rfl rfl hl.1 rfl (Nat.le_of_ble_eq_true rfl) rfl hr_14 d_Mo_isWrittenSo_32 (fun y_9 s_8 d_10 e_11 H locs h hP hD hS => ?_)
  have hl := lv_sub (l' := [(6, .int (sV σ a0 95)), (5, .ref (yP y_2 ((sX σ a0 114).1) ((sX σ a0 114).2))), (0, .ref (ad a0)), (3, .ref (ad a3)), (4, .int v4)]) hl [0, 1, 2, 5, 6] rfl
  obtain ⟨hd, h⟩ := h
  obtain ⟨n_15, h⟩ := h
  rw [n_15] at hl
  refine lv_aload_n G.1 G.2.1 d_Mo_isWrittenSo_35 rfl (lv_at hl 2 rfl) ?_
  refine lv_aload_n G.1 G.2.1 d_Mo_isWrittenSo_36 rfl (lv_at hl 2 rfl) ?_
  refine ugf (v := .ref (yP y_9 a0 94)) G hP h_a0 iMo rfl 94 (by decide) rfl q3158 rfl rfl d_Mo_isWrittenSo_37 ?_
  refine upf G hP hD hS h 114 putX h_a0 iMo tMo tMo_ok nMo rfl (by decide) rfl q3178 rfl rfl fX rfl rfl d_Mo_isWrittenSo_40 (fun s_16 H locs h hP hD hS => ?_)
  refine W.eq (g2 := F0 m 43 ls []) rfl ?_
  refine lv_aload_n G.1 G.2.1 d_Mo_isWrittenSo_43 rfl (lv_at hl 2 rfl) ?_
  refine ugf (v := .int (sV s_16 a0 95)) G hP h_a0 iMo rfl 95 (by decide) rfl q3159 rfl rfl d_Mo_isWrittenSo_44 ?_
  refine lv_istore (lv' := [(7, .int (sV s_16 a0 95)), (6, .int (sV σ a0 95)), (5, .ref (yP y_9 ((sX σ a0 114).1) ((sX σ a0 114).2))), (0, .ref (ad a0)), (3, .ref (ad a3)), (4, .int v4)]) G.1 G.2.1 d_Mo_isWrittenSo_47 hl (by decide) rfl (fun ls hl => ?_)
  refine lv_aload_n G.1 G.2.1 d_Mo_isWrittenSo_49 rfl (lv_at hl 3 rfl) ?_
  refine lv_aload_n G.1 G.2.1 d_Mo_isWrittenSo_50 rfl (lv_at hl 3 rfl) ?_
  obtain ⟨n_17, h⟩ := h
  refine ugf (v := .ref (yP y_9 ((sX s_16 a0 115).1) ((sX s_16 a0 115).2))) G hP h_a0 iMo rfl 115 (by decide) rfl q3179 rfl rfl d_Mo_isWrittenSo_51 ?_
  refine uyY G hP hD hS h (by decide) h_a0 rfl rfl n_17.1 n_17.2 iMo tMo tMo_ok nMo rfl (by decide) q3158 rfl rfl rfl rfl d_Mo_isWrittenSo_54 (fun y_18 s_19 H locs h hP hD hS => ?_)
  have hl := lv_sub (l' := [(7, .int (sV s_16 a0 95)), (6, .int (sV σ a0 95)), (5, .ref (yP y_9 ((sX σ a0 114).1) ((sX σ a0 114).2))), (0, .ref (ad a0)), (3, .ref (ad a3)), (4, .int v4)]) hl [0, 1, 2, 3, 4, 5] rfl
  obtain ⟨n_20, h⟩ := h
  rw [n_20] at hl
  refine lv_aload_n G.1 G.2.1 d_Mo_isWrittenSo_57 rfl (lv_at hl 3 rfl) ?_
  refine lv_iconst (v := 0) G.1 G.2.1 d_Mo_isWrittenSo_58 (by decide) ?_
  refine upf G hP hD hS h 95 putV h_a0 iMo tMo tMo_ok nMo rfl (by decide) rfl q3159 rfl rfl fV rfl rfl d_Mo_isWrittenSo_59 (fun s_21 H locs h hP hD hS => ?_)
  refine lv_aload_n G.1 G.2.1 d_Mo_isWrittenSo_62 rfl (lv_at hl 3 rfl) ?_
  refine lv_aload_n G.1 G.2.1 d_Mo_isWrittenSo_63 rfl (lv_at hl 4 rfl) ?_
  refine W.eq (g2 := F0 m 64 ls [.ref (ad a3), .ref (ad a0)]) rfl ?_
  refine upf G hP hD hS h 45 putO h_a0 iMo tMo tMo_ok nMo rfl (by decide) rfl q3109 rfl rfl fO rfl rfl d_Mo_isWrittenSo_64 (fun s_22 H locs h hP hD hS => ?_)
  refine lv_aload_n G.1 G.2.1 d_Mo_isWrittenSo_67 rfl (lv_at hl 3 rfl) ?_
  refine lv_iload G.1 G.2.1 d_Mo_isWrittenSo_68 (lv_at hl 5 rfl) ?_
  obtain ⟨mc_28, ms_29, hr_30, h⟩ := h
  refine utVv (As := [.int v4]) (rest := []) G hP hD hS (ca_Mo_putMethod l D g F sl hF ad mc_28 ms_29 y_18 _ s_22 a0 v4 H.size (us H) h_a0 h) w9_Mo_putMethod q4085 ⟨Nat.le_of_ble_eq_true rfl, Nat.le_of_ble_eq_true rfl⟩ rfl rfl h_a0 (q := (RMo, TMo, 131)) rfl rfl hl.1 rfl (Nat.le_of_ble_eq_true rfl) rfl hr_30 d_Mo_isWrittenSo_70 (fun y_25 s_24 d_26 e_27 H locs h hP hD hS => ?_)
  have hl := lv_sub (l' := [(7, .int (sV s_16 a0 95)), (6, .int (sV σ a0 95)), (5, .ref (yP y_18 ((sX σ a0 114).1) ((sX σ a0 114).2))), (0, .ref (ad a0))]) hl [0, 1, 2, 3] rfl
  obtain ⟨hd, h⟩ := h
  obtain ⟨n_31, h⟩ := h
  rw [n_31] at hl
  refine lv_aload_n G.1 G.2.1 d_Mo_isWrittenSo_73 rfl (lv_at hl 3 rfl) ?_
  refine lv_aload_n G.1 G.2.1 d_Mo_isWrittenSo_74 rfl (lv_at hl 3 rfl) ?_
  refine ugf (v := .ref (yP y_25 a0 94)) G hP h_a0 iMo rfl 94 (by decide) rfl q3158 rfl rfl d_Mo_isWrittenSo_75 ?_
  refine upf G hP hD hS h 115 putX h_a0 iMo tMo tMo_ok nMo rfl (by decide) rfl q3179 rfl rfl fX rfl rfl d_Mo_isWrittenSo_78 (fun s_32 H locs h hP hD hS => ?_)
  refine lv_iload G.1 G.2.1 d_Mo_isWrittenSo_81 (lv_at hl 0 rfl) ?_
  refine lv_aload_n G.1 G.2.1 d_Mo_isWrittenSo_83 rfl (lv_at hl 3 rfl) ?_
  refine ugf (v := .int (sV s_32 a0 95)) G hP h_a0 iMo rfl 95 (by decide) rfl q3159 rfl rfl d_Mo_isWrittenSo_84 ?_
  have J_95 : ∀ (y_j95 : Ly) (s_j95 : St) (d_j95 e_j95 : Nat) (x5j95 : Nat) (x5j95k : Nat) (x6j95 : Int32) (x7j95 : Int32) (z0j95 : Int32) (H : Heap) (locs : List Loc), wja_Mo_isWrittenSo_95 mc ms Post a0 a1 a3 y_j95 s_j95 d_j95 e_j95 x5j95 x5j95k x6j95 x7j95 z0j95 → va_P D CL (ws g ad y_j95 s_j95) H → va_D A (ws g ad y_j95 s_j95) → va_S A s.heap H locs → ∀ ls, lv_has ls 10 [(0, .ref (ad a0)), (5, .ref (yP y_j95 x5j95 x5j95k)), (6, .int x6j95), (7, .int x7j95)] → W p l e (ra_Mo_isWrittenSo mc ms) s m args below meth c H locs d_j95 e_j95 Q (F0 m 95 ls [.int z0j95]) := by
    intro y_j95 s_j95 d_j95 e_j95 x5j95 x5j95k x6j95 x7j95 z0j95 H locs h hP hD hS ls hl
    unfold wja_Mo_isWrittenSo_95 at h
    obtain ⟨hd, h⟩ := h
    obtain ⟨c_x5j95, h⟩ := h
    refine lv_istore (lv' := [(8, .int z0j95), (0, .ref (ad a0)), (5, .ref (yP y_j95 x5j95 x5j95k)), (6, .int x6j95), (7, .int x7j95)]) G.1 G.2.1 d_Mo_isWrittenSo_95 hl (by decide) rfl (fun ls hl => ?_)
    refine lv_iconst (v := 0) G.1 G.2.1 d_Mo_isWrittenSo_97 (by decide) ?_
    refine lv_istore (lv' := [(9, .int 0), (8, .int z0j95), (0, .ref (ad a0)), (5, .ref (yP y_j95 x5j95 x5j95k)), (6, .int x6j95), (7, .int x7j95)]) G.1 G.2.1 d_Mo_isWrittenSo_98 hl (by decide) rfl (fun ls hl => ?_)
    unfold wla_Mo_isWrittenSo_100 at h
    obtain ⟨I_100, μ_100, hI_100, hB_100⟩ := h
    have L_100 : ∀ (n_100 : Nat) (y_h100 : Ly) (s_h100 : St) (d_h100 e_h100 : Nat) (x5h100 : Nat) (x5h100k : Nat) (x6h100 : Int32) (x7h100 : Int32) (x8h100 : Int32) (x9h100 : Int32), μ_100 y_h100 s_h100 d_h100 e_h100 x5h100 x5h100k x6h100 x7h100 x8h100 x9h100 < n_100 → I_100 y_h100 s_h100 d_h100 e_h100 x5h100 x5h100k x6h100 x7h100 x8h100 x9h100 → ∀ (H : Heap) (locs : List Loc), va_P D CL (ws g ad y_h100 s_h100) H → va_D A (ws g ad y_h100 s_h100) → va_S A s.heap H locs → ∀ ls, lv_has ls 10 [(0, .ref (ad a0)), (5, .ref (yP y_h100 x5h100 x5h100k)), (6, .int x6h100), (7, .int x7h100), (8, .int x8h100), (9, .int x9h100)] → W p l e (ra_Mo_isWrittenSo mc ms) s m args below meth c H locs d_h100 e_h100 Q (F0 m 100 ls []) := by
      intro n_100
      induction n_100 with
      | zero => intro y_h100 s_h100 d_h100 e_h100 x5h100 x5h100k x6h100 x7h100 x8h100 x9h100 hμ; exact absurd hμ (Nat.not_lt_zero _)
      | succ n_100 ih_100 =>
        intro y_h100 s_h100 d_h100 e_h100 x5h100 x5h100k x6h100 x7h100 x8h100 x9h100 hμ_100 hJ H locs hP hD hS ls hl
        obtain ⟨K_100, hK_100, h⟩ : ∃ K : Ly → St → Nat → Nat → Nat → Nat → Int32 → Int32 → Int32 → Int32 → Prop, (∀ z1 z2 z3 z4 (t0 : Nat) (t1 : Nat) (t2 : Int32) (t3 : Int32) (t4 : Int32) (t5 : Int32), K z1 z2 z3 z4 t0 t1 t2 t3 t4 t5 → I_100 z1 z2 z3 z4 t0 t1 t2 t3 t4 t5 ∧ μ_100 z1 z2 z3 z4 t0 t1 t2 t3 t4 t5 < μ_100 y_h100 s_h100 d_h100 e_h100 x5h100 x5h100k x6h100 x7h100 x8h100 x9h100) ∧ wba_Mo_isWrittenSo_100 mc ms Post K a0 a1 a3 y_h100 s_h100 d_h100 e_h100 x5h100 x5h100k x6h100 x7h100 x8h100 x9h100 := ⟨_, fun _ _ _ _ _ _ _ _ _ _ h => h, hB_100 y_h100 s_h100 d_h100 e_h100 x5h100 x5h100k x6h100 x7h100 x8h100 x9h100 hJ⟩
        unfold wba_Mo_isWrittenSo_100 at h
        obtain ⟨hd, h⟩ := h
        obtain ⟨c_x5h100, h⟩ := h
        refine lv_iload G.1 G.2.1 d_Mo_isWrittenSo_100 (lv_at hl 5 rfl) ?_
        refine lv_iload G.1 G.2.1 d_Mo_isWrittenSo_102 (lv_at hl 3 rfl) ?_
        have J_142 : ∀ (y_j142 : Ly) (s_j142 : St) (d_j142 e_j142 : Nat) (x5j142 : Nat) (x5j142k : Nat) (x6j142 : Int32) (x8j142 : Int32) (H : Heap) (locs : List Loc), wja_Mo_isWrittenSo_142 mc ms Post a0 a1 a3 y_j142 s_j142 d_j142 e_j142 x5j142 x5j142k x6j142 x8j142 → va_P D CL (ws g ad y_j142 s_j142) H → va_D A (ws g ad y_j142 s_j142) → va_S A s.heap H locs → ∀ ls, lv_has ls 10 [(0, .ref (ad a0)), (5, .ref (yP y_j142 x5j142 x5j142k)), (6, .int x6j142), (8, .int x8j142)] → W p l e (ra_Mo_isWrittenSo mc ms) s m args below meth c H locs d_j142 e_j142 Q (F0 m 142 ls []) := by
          intro y_j142 s_j142 d_j142 e_j142 x5j142 x5j142k x6j142 x8j142 H locs h hP hD hS ls hl
          unfold wja_Mo_isWrittenSo_142 at h
          obtain ⟨hd, h⟩ := h
          obtain ⟨c_x5j142, h⟩ := h
          refine lv_aload_n G.1 G.2.1 d_Mo_isWrittenSo_142 rfl (lv_at hl 0 rfl) ?_
          refine lv_aload G.1 G.2.1 d_Mo_isWrittenSo_143 (lv_at hl 1 rfl) ?_
          refine uyY G hP hD hS h (by decide) h_a0 rfl rfl c_x5j142.1 c_x5j142.2 iMo tMo tMo_ok nMo rfl (by decide) q3158 rfl rfl rfl rfl d_Mo_isWrittenSo_145 (fun y_33 s_34 H locs h hP hD hS => ?_)
          have hl := lv_sub (l' := [(0, .ref (ad a0)), (6, .int x6j142), (8, .int x8j142)]) hl [0, 2, 3] rfl
          refine lv_aload_n G.1 G.2.1 d_Mo_isWrittenSo_148 rfl (lv_at hl 0 rfl) ?_
          refine lv_iload G.1 G.2.1 d_Mo_isWrittenSo_149 (lv_at hl 1 rfl) ?_
          refine upf G hP hD hS h 95 putV h_a0 iMo tMo tMo_ok nMo rfl (by decide) rfl q3159 rfl rfl fV rfl rfl d_Mo_isWrittenSo_151 (fun s_35 H locs h hP hD hS => ?_)
          refine lv_iload G.1 G.2.1 d_Mo_isWrittenSo_154 (lv_at hl 2 rfl) ?_
          exact hret _ (y_33, s_35, d_j142, e_j142) _ _ _ _ _ ls (nb_n h.1) h.2 hP hD hS (Nat.le_refl _) (Nat.le_refl _) hd.1 hd.2 d_Mo_isWrittenSo_156
        refine lv_icmp_ge (tgt := 142) G.1 G.2.1 d_Mo_isWrittenSo_104 (by decide) (fun c104 => ?_) (fun c104 => ?_)
        · skip
          have h := h.1 c104
          exact J_142 y_h100 s_h100 d_h100 e_h100 x5h100 x5h100k x6h100 x8h100 H locs h hP hD hS ls (lv_sub hl [0, 1, 2, 4] rfl)
        · skip
          have h := h.2 c104
          refine lv_iload G.1 G.2.1 d_Mo_isWrittenSo_107 (lv_at hl 4 rfl) ?_
          refine lv_if_eq (tgt := 142) G.1 G.2.1 d_Mo_isWrittenSo_109 (by decide) (fun c109 => ?_) (fun c109 => ?_)
          · skip
            have h := h.1 c109
            exact J_142 y_h100 s_h100 d_h100 e_h100 x5h100 x5h100k x6h100 x8h100 H locs h hP hD hS ls (lv_sub hl [0, 1, 2, 4] rfl)
          · skip
            have h := h.2 c109
            refine lv_aload_n G.1 G.2.1 d_Mo_isWrittenSo_112 rfl (lv_at hl 0 rfl) ?_
            obtain ⟨n_36, h⟩ := h
            refine ugf (v := .ref (yP y_h100 ((sX s_h100 a0 114).1) ((sX s_h100 a0 114).2))) G hP h_a0 iMo rfl 114 (by decide) rfl q3178 rfl rfl d_Mo_isWrittenSo_113 ?_
            refine lv_iload G.1 G.2.1 d_Mo_isWrittenSo_116 (lv_at hl 5 rfl) ?_
            refine ubald G hP n_36.1 n_36.2 h d_Mo_isWrittenSo_118 (fun x_37 h => ?_)
            refine lv_aload_n G.1 G.2.1 d_Mo_isWrittenSo_119 rfl (lv_at hl 0 rfl) ?_
            obtain ⟨n_38, h⟩ := h
            refine ugf (v := .ref (yP y_h100 ((sX s_h100 a0 115).1) ((sX s_h100 a0 115).2))) G hP h_a0 iMo rfl 115 (by decide) rfl q3179 rfl rfl d_Mo_isWrittenSo_120 ?_
            refine W.eq (g2 := F0 m 123 ls [.ref (yP y_h100 ((sX s_h100 a0 115).1) ((sX s_h100 a0 115).2)), .int x_37]) rfl ?_
            refine lv_iload G.1 G.2.1 d_Mo_isWrittenSo_123 (lv_at hl 5 rfl) ?_
            refine ubald G hP n_38.1 n_38.2 h d_Mo_isWrittenSo_125 (fun x_39 h => ?_)
            have J_134 : ∀ (y_j134 : Ly) (s_j134 : St) (d_j134 e_j134 : Nat) (x5j134 : Nat) (x5j134k : Nat) (x6j134 : Int32) (x7j134 : Int32) (x9j134 : Int32) (z0j134 : Int32) (H : Heap) (locs : List Loc), wja_Mo_isWrittenSo_134 mc ms Post K_100 a0 a1 a3 y_j134 s_j134 d_j134 e_j134 x5j134 x5j134k x6j134 x7j134 x9j134 z0j134 → va_P D CL (ws g ad y_j134 s_j134) H → va_D A (ws g ad y_j134 s_j134) → va_S A s.heap H locs → ∀ ls, lv_has ls 10 [(0, .ref (ad a0)), (5, .ref (yP y_j134 x5j134 x5j134k)), (6, .int x6j134), (7, .int x7j134), (9, .int x9j134)] → W p l e (ra_Mo_isWrittenSo mc ms) s m args below meth c H locs d_j134 e_j134 Q (F0 m 134 ls [.int z0j134]) := by
              intro y_j134 s_j134 d_j134 e_j134 x5j134 x5j134k x6j134 x7j134 x9j134 z0j134 H locs h hP hD hS ls hl
              unfold wja_Mo_isWrittenSo_134 at h
              obtain ⟨hd, h⟩ := h
              obtain ⟨c_x5j134, h⟩ := h
              refine lv_istore (lv' := [(8, .int z0j134), (0, .ref (ad a0)), (5, .ref (yP y_j134 x5j134 x5j134k)), (6, .int x6j134), (7, .int x7j134), (9, .int x9j134)]) G.1 G.2.1 d_Mo_isWrittenSo_134 hl (by decide) rfl (fun ls hl => ?_)
              refine lv_iinc (v := x9j134 + 1) (lv' := [(9, .int (x9j134 + 1)), (8, .int z0j134), (0, .ref (ad a0)), (5, .ref (yP y_j134 x5j134 x5j134k)), (6, .int x6j134), (7, .int x7j134)]) G.1 G.2.1 d_Mo_isWrittenSo_136 hl (k := 5) rfl rfl (by decide) rfl (fun ls hl => ?_)
              refine lv_goto (tgt := 100) G.1 G.2.1 d_Mo_isWrittenSo_139 (by decide) ?_
              have h := hK_100 y_j134 s_j134 d_j134 e_j134 x5j134 x5j134k x6j134 x7j134 z0j134 (x9j134 + 1) h
              exact ih_100 y_j134 s_j134 d_j134 e_j134 x5j134 x5j134k x6j134 x7j134 z0j134 (x9j134 + 1) (Nat.lt_of_lt_of_le h.2 (Nat.le_of_lt_succ hμ_100)) h.1 H locs hP hD hS ls (lv_sub hl [2, 3, 4, 5, 1, 0] rfl)
            refine lv_icmp_ne (tgt := 133) G.1 G.2.1 d_Mo_isWrittenSo_126 (by decide) (fun c126 => ?_) (fun c126 => ?_)
            · skip
              have h := h.1 c126
              refine lv_iconst (v := 0) G.1 G.2.1 d_Mo_isWrittenSo_133 (by decide) ?_
              exact J_134 y_h100 s_h100 d_h100 e_h100 x5h100 x5h100k x6h100 x7h100 x9h100 0 H locs h hP hD hS ls (lv_sub hl [0, 1, 2, 3, 5] rfl)
            · skip
              have h := h.2 c126
              refine lv_iconst (v := 1) G.1 G.2.1 d_Mo_isWrittenSo_129 (by decide) ?_
              refine lv_goto (tgt := 134) G.1 G.2.1 d_Mo_isWrittenSo_130 (by decide) ?_
              exact J_134 y_h100 s_h100 d_h100 e_h100 x5h100 x5h100k x6h100 x7h100 x9h100 1 H locs h hP hD hS ls (lv_sub hl [0, 1, 2, 3, 5] rfl)
    exact L_100 _ y_j95 s_j95 d_j95 e_j95 x5j95 x5j95k x6j95 x7j95 z0j95 0 (Nat.lt_succ_self _) hI_100 H locs hP hD hS ls (lv_sub hl [2, 3, 4, 5, 1, 0] rfl)
  refine lv_icmp_ne (tgt := 94) G.1 G.2.1 d_Mo_isWrittenSo_87 (by decide) (fun c87 => ?_) (fun c87 => ?_)
  · skip
    have h := h.1 c87
    refine W.eq (g2 := F0 m 94 ls []) rfl ?_
    refine lv_iconst (v := 0) G.1 G.2.1 d_Mo_isWrittenSo_94 (by decide) ?_
    exact J_95 y_25 s_32 (0 + d_10 + d_26) (0 + e_11 + e_27) ((sX σ a0 114).1) ((sX σ a0 114).2) (sV σ a0 95) (sV s_16 a0 95) 0 H locs h hP hD hS ls (lv_sub hl [3, 2, 1, 0] rfl)
  · skip
    have h := h.2 c87
    refine W.eq (g2 := F0 m 90 ls []) rfl ?_
    refine lv_iconst (v := 1) G.1 G.2.1 d_Mo_isWrittenSo_90 (by decide) ?_
    refine lv_goto (tgt := 95) G.1 G.2.1 d_Mo_isWrittenSo_91 (by decide) ?_
    exact J_95 y_25 s_32 (0 + d_10 + d_26) (0 + e_11 + e_27) ((sX σ a0 114).1) ((sX σ a0 114).2) (sV σ a0 95) (sV s_16 a0 95) 1 H locs h hP hD hS ls (lv_sub hl [3, 2, 1, 0] rfl)
theorem q4200 : Cond.methodLink "ClassWorksModel" 1310 y_Mo_isWrittenSo ∈ lw_ok := lw_okmem (List.mem_of_getElem? (i := 4200) (by decide +kernel)) rfl
theorem q4203 : Cond.code y_Mo_isWrittenSo b_Mo_isWrittenSo 10 (some (.boolean)) ∈ lw_ok := lw_okmem (List.mem_of_getElem? (i := 4203) (by decide +kernel)) rfl
theorem q4202 : Cond.instanceMethod y_Mo_isWrittenSo ∈ lw_ok := lw_okmem (List.mem_of_getElem? (i := 4202) (by decide +kernel)) rfl
theorem q318 : Cond.selects y_Mo_isWrittenSo.cls y_Mo_isWrittenSo y_Mo_isWrittenSo ∈ lw_ok := lw_okmem (List.mem_of_getElem? (i := 318) (by decide +kernel)) rfl
theorem w9_Mo_isWrittenSo : CWv y_Mo_isWrittenSo b_Mo_isWrittenSo 10 (some (.boolean)) 4 ∧ Cond.instanceMethod y_Mo_isWrittenSo ∈ lw_ok ∧ Cond.selects y_Mo_isWrittenSo.cls y_Mo_isWrittenSo y_Mo_isWrittenSo ∈ lw_ok := ⟨⟨q4203, q348, by decide +kernel, by decide +kernel, by decide +kernel⟩, q4202, q318⟩
theorem q4197 : Cond.methodLink "ClassWorksModel" 1306 y_Mo_fieldLike ∈ lw_ok := lw_okmem (List.mem_of_getElem? (i := 4197) (by decide +kernel)) rfl
theorem q4199 : Cond.code y_Mo_fieldLike b_Mo_fieldLike 5 (some .int) ∈ lw_ok := lw_okmem (List.mem_of_getElem? (i := 4199) (by decide +kernel)) rfl
theorem q4198 : Cond.static y_Mo_fieldLike ∈ lw_ok := lw_okmem (List.mem_of_getElem? (i := 4198) (by decide +kernel)) rfl
theorem w9_Mo_fieldLike : CWv y_Mo_fieldLike b_Mo_fieldLike 5 (some .int) 4 ∧ Cond.static y_Mo_fieldLike ∈ lw_ok := ⟨⟨q4199, q348, by decide +kernel, by decide +kernel, by decide +kernel⟩, q4198⟩
def y_Mo_differ : MethodName := ⟨"ClassWorksModel", "differ", "(IIIII)I"⟩
abbrev b_Mo_differ : ByteArray := prog_14_method_191_code
theorem d_Mo_differ_0 : decode b_Mo_differ 0 = .ok (.aload_n 0, 1) := by decide +kernel
theorem d_Mo_differ_1 : decode b_Mo_differ 1 = .ok (.iload_n 1, 1) := by decide +kernel
theorem d_Mo_differ_2 : decode b_Mo_differ 2 = .ok (.iload_n 2, 1) := by decide +kernel
theorem d_Mo_differ_3 : decode b_Mo_differ 3 = .ok (.invokevirtual 1129, 3) := by decide +kernel
theorem d_Mo_differ_6 : decode b_Mo_differ 6 = .ok (.ifCond .eq 24, 3) := by decide +kernel
theorem d_Mo_differ_9 : decode b_Mo_differ 9 = .ok (.aload_n 0, 1) := by decide +kernel
theorem d_Mo_differ_10 : decode b_Mo_differ 10 = .ok (.iload_n 3, 1) := by decide +kernel
theorem d_Mo_differ_11 : decode b_Mo_differ 11 = .ok (.iload 4, 2) := by decide +kernel
theorem d_Mo_differ_13 : decode b_Mo_differ 13 = .ok (.invokevirtual 1129, 3) := by decide +kernel
theorem d_Mo_differ_16 : decode b_Mo_differ 16 = .ok (.ifCond .eq 14, 3) := by decide +kernel
theorem d_Mo_differ_19 : decode b_Mo_differ 19 = .ok (.iload 5, 2) := by decide +kernel
theorem d_Mo_differ_21 : decode b_Mo_differ 21 = .ok (.ifCond .lt 9, 3) := by decide +kernel
theorem d_Mo_differ_24 : decode b_Mo_differ 24 = .ok (.iload 5, 2) := by decide +kernel
theorem d_Mo_differ_26 : decode b_Mo_differ 26 = .ok (.iconst 3, 1) := by decide +kernel
theorem d_Mo_differ_27 : decode b_Mo_differ 27 = .ok (.if_icmp .le 5, 3) := by decide +kernel
theorem d_Mo_differ_30 : decode b_Mo_differ 30 = .ok (.iconst (-1), 1) := by decide +kernel
theorem d_Mo_differ_31 : decode b_Mo_differ 31 = .ok (.ireturn, 1) := by decide +kernel
theorem d_Mo_differ_32 : decode b_Mo_differ 32 = .ok (.aload_n 0, 1) := by decide +kernel
theorem d_Mo_differ_33 : decode b_Mo_differ 33 = .ok (.getfield 263, 3) := by decide +kernel
theorem d_Mo_differ_36 : decode b_Mo_differ 36 = .ok (.iload_n 1, 1) := by decide +kernel
theorem d_Mo_differ_37 : decode b_Mo_differ 37 = .ok (.aaload, 1) := by decide +kernel
theorem d_Mo_differ_38 : decode b_Mo_differ 38 = .ok (.astore 6, 2) := by decide +kernel
theorem d_Mo_differ_40 : decode b_Mo_differ 40 = .ok (.aload_n 0, 1) := by decide +kernel
theorem d_Mo_differ_41 : decode b_Mo_differ 41 = .ok (.getfield 263, 3) := by decide +kernel
theorem d_Mo_differ_44 : decode b_Mo_differ 44 = .ok (.iload_n 3, 1) := by decide +kernel
theorem d_Mo_differ_45 : decode b_Mo_differ 45 = .ok (.aaload, 1) := by decide +kernel
theorem d_Mo_differ_46 : decode b_Mo_differ 46 = .ok (.astore 7, 2) := by decide +kernel
theorem d_Mo_differ_48 : decode b_Mo_differ 48 = .ok (.iload 5, 2) := by decide +kernel
theorem d_Mo_differ_50 : decode b_Mo_differ 50 = .ok (.ifCond .ne 136, 3) := by decide +kernel
theorem d_Mo_differ_53 : decode b_Mo_differ 53 = .ok (.aload 6, 2) := by decide +kernel
theorem d_Mo_differ_55 : decode b_Mo_differ 55 = .ok (.getfield 429, 3) := by decide +kernel
theorem d_Mo_differ_58 : decode b_Mo_differ 58 = .ok (.iload_n 2, 1) := by decide +kernel
theorem d_Mo_differ_59 : decode b_Mo_differ 59 = .ok (.iaload, 1) := by decide +kernel
theorem d_Mo_differ_60 : decode b_Mo_differ 60 = .ok (.aload 7, 2) := by decide +kernel
theorem d_Mo_differ_62 : decode b_Mo_differ 62 = .ok (.getfield 429, 3) := by decide +kernel
theorem d_Mo_differ_65 : decode b_Mo_differ 65 = .ok (.iload 4, 2) := by decide +kernel
theorem d_Mo_differ_67 : decode b_Mo_differ 67 = .ok (.iaload, 1) := by decide +kernel
theorem d_Mo_differ_68 : decode b_Mo_differ 68 = .ok (.if_icmp .ne 43, 3) := by decide +kernel
theorem d_Mo_differ_71 : decode b_Mo_differ 71 = .ok (.aload 6, 2) := by decide +kernel
theorem d_Mo_differ_73 : decode b_Mo_differ 73 = .ok (.getfield 426, 3) := by decide +kernel
theorem d_Mo_differ_76 : decode b_Mo_differ 76 = .ok (.iload_n 2, 1) := by decide +kernel
theorem d_Mo_differ_77 : decode b_Mo_differ 77 = .ok (.iaload, 1) := by decide +kernel
theorem d_Mo_differ_78 : decode b_Mo_differ 78 = .ok (.aload 7, 2) := by decide +kernel
theorem d_Mo_differ_80 : decode b_Mo_differ 80 = .ok (.getfield 426, 3) := by decide +kernel
theorem d_Mo_differ_83 : decode b_Mo_differ 83 = .ok (.iload 4, 2) := by decide +kernel
theorem d_Mo_differ_85 : decode b_Mo_differ 85 = .ok (.iaload, 1) := by decide +kernel
theorem d_Mo_differ_86 : decode b_Mo_differ 86 = .ok (.if_icmp .ne 25, 3) := by decide +kernel
theorem d_Mo_differ_89 : decode b_Mo_differ 89 = .ok (.aload 6, 2) := by decide +kernel
theorem d_Mo_differ_91 : decode b_Mo_differ 91 = .ok (.getfield 432, 3) := by decide +kernel
theorem d_Mo_differ_94 : decode b_Mo_differ 94 = .ok (.iload_n 2, 1) := by decide +kernel
theorem d_Mo_differ_95 : decode b_Mo_differ 95 = .ok (.iaload, 1) := by decide +kernel
theorem d_Mo_differ_96 : decode b_Mo_differ 96 = .ok (.aload 7, 2) := by decide +kernel
theorem d_Mo_differ_98 : decode b_Mo_differ 98 = .ok (.getfield 432, 3) := by decide +kernel
theorem d_Mo_differ_101 : decode b_Mo_differ 101 = .ok (.iload 4, 2) := by decide +kernel
theorem d_Mo_differ_103 : decode b_Mo_differ 103 = .ok (.iaload, 1) := by decide +kernel
theorem d_Mo_differ_104 : decode b_Mo_differ 104 = .ok (.if_icmp .ne 7, 3) := by decide +kernel
theorem d_Mo_differ_107 : decode b_Mo_differ 107 = .ok (.iconst 1, 1) := by decide +kernel
theorem d_Mo_differ_108 : decode b_Mo_differ 108 = .ok (.goto 4, 3) := by decide +kernel
theorem d_Mo_differ_111 : decode b_Mo_differ 111 = .ok (.iconst 0, 1) := by decide +kernel
theorem d_Mo_differ_112 : decode b_Mo_differ 112 = .ok (.istore 8, 2) := by decide +kernel
theorem d_Mo_differ_114 : decode b_Mo_differ 114 = .ok (.iconst 0, 1) := by decide +kernel
theorem d_Mo_differ_115 : decode b_Mo_differ 115 = .ok (.istore 9, 2) := by decide +kernel
theorem d_Mo_differ_117 : decode b_Mo_differ 117 = .ok (.iload 9, 2) := by decide +kernel
theorem d_Mo_differ_119 : decode b_Mo_differ 119 = .ok (.aload 6, 2) := by decide +kernel
theorem d_Mo_differ_121 : decode b_Mo_differ 121 = .ok (.getfield 432, 3) := by decide +kernel
theorem d_Mo_differ_124 : decode b_Mo_differ 124 = .ok (.iload_n 2, 1) := by decide +kernel
theorem d_Mo_differ_125 : decode b_Mo_differ 125 = .ok (.iaload, 1) := by decide +kernel
theorem d_Mo_differ_126 : decode b_Mo_differ 126 = .ok (.if_icmp .ge 49, 3) := by decide +kernel
theorem d_Mo_differ_129 : decode b_Mo_differ 129 = .ok (.iload 8, 2) := by decide +kernel
theorem d_Mo_differ_131 : decode b_Mo_differ 131 = .ok (.ifCond .eq 44, 3) := by decide +kernel
theorem d_Mo_differ_134 : decode b_Mo_differ 134 = .ok (.aload 6, 2) := by decide +kernel
theorem d_Mo_differ_136 : decode b_Mo_differ 136 = .ok (.getfield 612, 3) := by decide +kernel
theorem d_Mo_differ_139 : decode b_Mo_differ 139 = .ok (.iconst 4, 1) := by decide +kernel
theorem d_Mo_differ_140 : decode b_Mo_differ 140 = .ok (.iload_n 2, 1) := by decide +kernel
theorem d_Mo_differ_141 : decode b_Mo_differ 141 = .ok (.imul, 1) := by decide +kernel
theorem d_Mo_differ_142 : decode b_Mo_differ 142 = .ok (.iload 9, 2) := by decide +kernel
theorem d_Mo_differ_144 : decode b_Mo_differ 144 = .ok (.iadd, 1) := by decide +kernel
theorem d_Mo_differ_145 : decode b_Mo_differ 145 = .ok (.iaload, 1) := by decide +kernel
theorem d_Mo_differ_146 : decode b_Mo_differ 146 = .ok (.aload 7, 2) := by decide +kernel
theorem d_Mo_differ_148 : decode b_Mo_differ 148 = .ok (.getfield 612, 3) := by decide +kernel
theorem d_Mo_differ_151 : decode b_Mo_differ 151 = .ok (.iconst 4, 1) := by decide +kernel
theorem d_Mo_differ_152 : decode b_Mo_differ 152 = .ok (.iload 4, 2) := by decide +kernel
theorem d_Mo_differ_154 : decode b_Mo_differ 154 = .ok (.imul, 1) := by decide +kernel
theorem d_Mo_differ_155 : decode b_Mo_differ 155 = .ok (.iload 9, 2) := by decide +kernel
theorem d_Mo_differ_157 : decode b_Mo_differ 157 = .ok (.iadd, 1) := by decide +kernel
theorem d_Mo_differ_158 : decode b_Mo_differ 158 = .ok (.iaload, 1) := by decide +kernel
theorem d_Mo_differ_159 : decode b_Mo_differ 159 = .ok (.if_icmp .ne 7, 3) := by decide +kernel
theorem d_Mo_differ_162 : decode b_Mo_differ 162 = .ok (.iconst 1, 1) := by decide +kernel
theorem d_Mo_differ_163 : decode b_Mo_differ 163 = .ok (.goto 4, 3) := by decide +kernel
theorem d_Mo_differ_166 : decode b_Mo_differ 166 = .ok (.iconst 0, 1) := by decide +kernel
theorem d_Mo_differ_167 : decode b_Mo_differ 167 = .ok (.istore 8, 2) := by decide +kernel
theorem d_Mo_differ_169 : decode b_Mo_differ 169 = .ok (.iinc 9 1, 3) := by decide +kernel
theorem d_Mo_differ_172 : decode b_Mo_differ 172 = .ok (.goto (-55), 3) := by decide +kernel
theorem d_Mo_differ_175 : decode b_Mo_differ 175 = .ok (.iload 8, 2) := by decide +kernel
theorem d_Mo_differ_177 : decode b_Mo_differ 177 = .ok (.ifCond .eq 7, 3) := by decide +kernel
theorem d_Mo_differ_180 : decode b_Mo_differ 180 = .ok (.iconst 0, 1) := by decide +kernel
theorem d_Mo_differ_181 : decode b_Mo_differ 181 = .ok (.goto 4, 3) := by decide +kernel
theorem d_Mo_differ_184 : decode b_Mo_differ 184 = .ok (.iconst 1, 1) := by decide +kernel
theorem d_Mo_differ_185 : decode b_Mo_differ 185 = .ok (.ireturn, 1) := by decide +kernel
theorem d_Mo_differ_186 : decode b_Mo_differ 186 = .ok (.iconst 0, 1) := by decide +kernel
theorem d_Mo_differ_187 : decode b_Mo_differ 187 = .ok (.istore 8, 2) := by decide +kernel
theorem d_Mo_differ_189 : decode b_Mo_differ 189 = .ok (.iload 5, 2) := by decide +kernel
theorem d_Mo_differ_191 : decode b_Mo_differ 191 = .ok (.iconst 1, 1) := by decide +kernel
theorem d_Mo_differ_192 : decode b_Mo_differ 192 = .ok (.if_icmp .ne 59, 3) := by decide +kernel
theorem d_Mo_differ_195 : decode b_Mo_differ 195 = .ok (.bipush 8, 2) := by decide +kernel
theorem d_Mo_differ_197 : decode b_Mo_differ 197 = .ok (.iload_n 2, 1) := by decide +kernel
theorem d_Mo_differ_198 : decode b_Mo_differ 198 = .ok (.imul, 1) := by decide +kernel
theorem d_Mo_differ_199 : decode b_Mo_differ 199 = .ok (.istore 9, 2) := by decide +kernel
theorem d_Mo_differ_201 : decode b_Mo_differ 201 = .ok (.iload 9, 2) := by decide +kernel
theorem d_Mo_differ_203 : decode b_Mo_differ 203 = .ok (.bipush 8, 2) := by decide +kernel
theorem d_Mo_differ_205 : decode b_Mo_differ 205 = .ok (.iload_n 2, 1) := by decide +kernel
theorem d_Mo_differ_206 : decode b_Mo_differ 206 = .ok (.imul, 1) := by decide +kernel
theorem d_Mo_differ_207 : decode b_Mo_differ 207 = .ok (.aload 6, 2) := by decide +kernel
theorem d_Mo_differ_209 : decode b_Mo_differ 209 = .ok (.getfield 435, 3) := by decide +kernel
theorem d_Mo_differ_212 : decode b_Mo_differ 212 = .ok (.iload_n 2, 1) := by decide +kernel
theorem d_Mo_differ_213 : decode b_Mo_differ 213 = .ok (.iaload, 1) := by decide +kernel
theorem d_Mo_differ_214 : decode b_Mo_differ 214 = .ok (.iadd, 1) := by decide +kernel
theorem d_Mo_differ_215 : decode b_Mo_differ 215 = .ok (.if_icmp .ge 33, 3) := by decide +kernel
theorem d_Mo_differ_218 : decode b_Mo_differ 218 = .ok (.iload 8, 2) := by decide +kernel
theorem d_Mo_differ_220 : decode b_Mo_differ 220 = .ok (.aload 6, 2) := by decide +kernel
theorem d_Mo_differ_222 : decode b_Mo_differ 222 = .ok (.iload 9, 2) := by decide +kernel
theorem d_Mo_differ_224 : decode b_Mo_differ 224 = .ok (.aload 7, 2) := by decide +kernel
theorem d_Mo_differ_226 : decode b_Mo_differ 226 = .ok (.iload 4, 2) := by decide +kernel
theorem d_Mo_differ_228 : decode b_Mo_differ 228 = .ok (.invokestatic 1306, 3) := by decide +kernel
theorem d_Mo_differ_231 : decode b_Mo_differ 231 = .ok (.ifCond .ge 7, 3) := by decide +kernel
theorem d_Mo_differ_234 : decode b_Mo_differ 234 = .ok (.iconst 1, 1) := by decide +kernel
theorem d_Mo_differ_235 : decode b_Mo_differ 235 = .ok (.goto 4, 3) := by decide +kernel
theorem d_Mo_differ_238 : decode b_Mo_differ 238 = .ok (.iconst 0, 1) := by decide +kernel
theorem d_Mo_differ_239 : decode b_Mo_differ 239 = .ok (.iadd, 1) := by decide +kernel
theorem d_Mo_differ_240 : decode b_Mo_differ 240 = .ok (.istore 8, 2) := by decide +kernel
theorem d_Mo_differ_242 : decode b_Mo_differ 242 = .ok (.iinc 9 1, 3) := by decide +kernel
theorem d_Mo_differ_245 : decode b_Mo_differ 245 = .ok (.goto (-44), 3) := by decide +kernel
theorem d_Mo_differ_248 : decode b_Mo_differ 248 = .ok (.iload 8, 2) := by decide +kernel
theorem d_Mo_differ_250 : decode b_Mo_differ 250 = .ok (.ireturn, 1) := by decide +kernel
theorem d_Mo_differ_251 : decode b_Mo_differ 251 = .ok (.bipush 12, 2) := by decide +kernel
theorem d_Mo_differ_253 : decode b_Mo_differ 253 = .ok (.iload_n 2, 1) := by decide +kernel
theorem d_Mo_differ_254 : decode b_Mo_differ 254 = .ok (.imul, 1) := by decide +kernel
theorem d_Mo_differ_255 : decode b_Mo_differ 255 = .ok (.istore 9, 2) := by decide +kernel
theorem d_Mo_differ_257 : decode b_Mo_differ 257 = .ok (.iload 9, 2) := by decide +kernel
theorem d_Mo_differ_259 : decode b_Mo_differ 259 = .ok (.bipush 12, 2) := by decide +kernel
theorem d_Mo_differ_261 : decode b_Mo_differ 261 = .ok (.iload_n 2, 1) := by decide +kernel
theorem d_Mo_differ_262 : decode b_Mo_differ 262 = .ok (.imul, 1) := by decide +kernel
theorem d_Mo_differ_263 : decode b_Mo_differ 263 = .ok (.aload 6, 2) := by decide +kernel
theorem d_Mo_differ_265 : decode b_Mo_differ 265 = .ok (.getfield 438, 3) := by decide +kernel
theorem d_Mo_differ_268 : decode b_Mo_differ 268 = .ok (.iload_n 2, 1) := by decide +kernel
theorem d_Mo_differ_269 : decode b_Mo_differ 269 = .ok (.iaload, 1) := by decide +kernel
theorem d_Mo_differ_270 : decode b_Mo_differ 270 = .ok (.iadd, 1) := by decide +kernel
theorem d_Mo_differ_271 : decode b_Mo_differ 271 = .ok (.if_icmp .ge 89, 3) := by decide +kernel
theorem d_Mo_differ_274 : decode b_Mo_differ 274 = .ok (.aload_n 0, 1) := by decide +kernel
theorem d_Mo_differ_275 : decode b_Mo_differ 275 = .ok (.aload 7, 2) := by decide +kernel
theorem d_Mo_differ_277 : decode b_Mo_differ 277 = .ok (.putfield 522, 3) := by decide +kernel
theorem d_Mo_differ_280 : decode b_Mo_differ 280 = .ok (.aload_n 0, 1) := by decide +kernel
theorem d_Mo_differ_281 : decode b_Mo_differ 281 = .ok (.iload 4, 2) := by decide +kernel
theorem d_Mo_differ_283 : decode b_Mo_differ 283 = .ok (.aload 6, 2) := by decide +kernel
theorem d_Mo_differ_285 : decode b_Mo_differ 285 = .ok (.getfield 447, 3) := by decide +kernel
theorem d_Mo_differ_288 : decode b_Mo_differ 288 = .ok (.iload 9, 2) := by decide +kernel
theorem d_Mo_differ_290 : decode b_Mo_differ 290 = .ok (.iaload, 1) := by decide +kernel
theorem d_Mo_differ_291 : decode b_Mo_differ 291 = .ok (.aload 6, 2) := by decide +kernel
theorem d_Mo_differ_293 : decode b_Mo_differ 293 = .ok (.getfield 450, 3) := by decide +kernel
theorem d_Mo_differ_296 : decode b_Mo_differ 296 = .ok (.iload 9, 2) := by decide +kernel
theorem d_Mo_differ_298 : decode b_Mo_differ 298 = .ok (.iaload, 1) := by decide +kernel
theorem d_Mo_differ_299 : decode b_Mo_differ 299 = .ok (.invokevirtual 752, 3) := by decide +kernel
theorem d_Mo_differ_302 : decode b_Mo_differ 302 = .ok (.istore 10, 2) := by decide +kernel
theorem d_Mo_differ_304 : decode b_Mo_differ 304 = .ok (.iload 8, 2) := by decide +kernel
theorem d_Mo_differ_306 : decode b_Mo_differ 306 = .ok (.iload 10, 2) := by decide +kernel
theorem d_Mo_differ_308 : decode b_Mo_differ 308 = .ok (.ifCond .ge 17, 3) := by decide +kernel
theorem d_Mo_differ_311 : decode b_Mo_differ 311 = .ok (.iload 5, 2) := by decide +kernel
theorem d_Mo_differ_313 : decode b_Mo_differ 313 = .ok (.iconst 2, 1) := by decide +kernel
theorem d_Mo_differ_314 : decode b_Mo_differ 314 = .ok (.if_icmp .ne 7, 3) := by decide +kernel
theorem d_Mo_differ_317 : decode b_Mo_differ 317 = .ok (.iconst 1, 1) := by decide +kernel
theorem d_Mo_differ_318 : decode b_Mo_differ 318 = .ok (.goto 33, 3) := by decide +kernel
theorem d_Mo_differ_321 : decode b_Mo_differ 321 = .ok (.iconst 0, 1) := by decide +kernel
theorem d_Mo_differ_322 : decode b_Mo_differ 322 = .ok (.goto 29, 3) := by decide +kernel
theorem d_Mo_differ_325 : decode b_Mo_differ 325 = .ok (.iload 5, 2) := by decide +kernel
theorem d_Mo_differ_327 : decode b_Mo_differ 327 = .ok (.iconst 3, 1) := by decide +kernel
theorem d_Mo_differ_328 : decode b_Mo_differ 328 = .ok (.if_icmp .ne 22, 3) := by decide +kernel
theorem d_Mo_differ_331 : decode b_Mo_differ 331 = .ok (.aload_n 0, 1) := by decide +kernel
theorem d_Mo_differ_332 : decode b_Mo_differ 332 = .ok (.aload 6, 2) := by decide +kernel
theorem d_Mo_differ_334 : decode b_Mo_differ 334 = .ok (.iload 9, 2) := by decide +kernel
theorem d_Mo_differ_336 : decode b_Mo_differ 336 = .ok (.aload 7, 2) := by decide +kernel
theorem d_Mo_differ_338 : decode b_Mo_differ 338 = .ok (.iload 10, 2) := by decide +kernel
theorem d_Mo_differ_340 : decode b_Mo_differ 340 = .ok (.invokevirtual 1310, 3) := by decide +kernel
theorem d_Mo_differ_343 : decode b_Mo_differ 343 = .ok (.ifCond .ne 7, 3) := by decide +kernel
theorem d_Mo_differ_346 : decode b_Mo_differ 346 = .ok (.iconst 1, 1) := by decide +kernel
theorem d_Mo_differ_347 : decode b_Mo_differ 347 = .ok (.goto 4, 3) := by decide +kernel
theorem d_Mo_differ_350 : decode b_Mo_differ 350 = .ok (.iconst 0, 1) := by decide +kernel
theorem d_Mo_differ_351 : decode b_Mo_differ 351 = .ok (.iadd, 1) := by decide +kernel
theorem d_Mo_differ_352 : decode b_Mo_differ 352 = .ok (.istore 8, 2) := by decide +kernel
theorem d_Mo_differ_354 : decode b_Mo_differ 354 = .ok (.iinc 9 1, 3) := by decide +kernel
theorem d_Mo_differ_357 : decode b_Mo_differ 357 = .ok (.goto (-100), 3) := by decide +kernel
theorem d_Mo_differ_360 : decode b_Mo_differ 360 = .ok (.iload 8, 2) := by decide +kernel
theorem d_Mo_differ_362 : decode b_Mo_differ 362 = .ok (.ireturn, 1) := by decide +kernel
abbrev ra_Mo_differ (mc ms : Nat) : Room := { frames := 10, cells := mc, slots := ms, locals := 318 }
def wja_Mo_differ_30 (mc ms : Nat) (Post : Ly → St → Int32 → Nat → Nat → Prop) (a0 : Nat) (y_j30 : Ly) (s_j30 : St) (d_j30 e_j30 : Nat) : Prop := (d_j30 ≤ mc ∧ e_j30 ≤ ms) ∧ Post y_j30 s_j30 (-1) d_j30 e_j30
def wja_Mo_differ_351 (mc ms : Nat) (Post : Ly → St → Int32 → Nat → Nat → Prop) (K_257 : Ly → St → Nat → Nat → Int32 → Int32 → Int32 → Nat → Nat → Int32 → Int32 → Prop) (a0 : Nat) (y_j351 : Ly) (s_j351 : St) (d_j351 e_j351 : Nat) (x2j351 : Int32) (x4j351 : Int32) (x5j351 : Int32) (x6j351 : Nat) (x7j351 : Nat) (x9j351 : Int32) (z0j351 : Int32) (z1j351 : Int32) : Prop := (d_j351 ≤ mc ∧ e_j351 ≤ ms) ∧ cl x6j351 = 13 ∧ cl x7j351 = 13 ∧ K_257 y_j351 s_j351 d_j351 e_j351 x2j351 x4j351 x5j351 x6j351 x7j351 (z0j351 + z1j351) (x9j351 + 1)
def wja_Mo_differ_350 (mc ms : Nat) (Post : Ly → St → Int32 → Nat → Nat → Prop) (K_257 : Ly → St → Nat → Nat → Int32 → Int32 → Int32 → Nat → Nat → Int32 → Int32 → Prop) (a0 : Nat) (y_j350 : Ly) (s_j350 : St) (d_j350 e_j350 : Nat) (x2j350 : Int32) (x4j350 : Int32) (x5j350 : Int32) (x6j350 : Nat) (x7j350 : Nat) (x9j350 : Int32) (z0j350 : Int32) : Prop := (d_j350 ≤ mc ∧ e_j350 ≤ ms) ∧ cl x6j350 = 13 ∧ cl x7j350 = 13 ∧ wja_Mo_differ_351 mc ms Post K_257 a0 y_j350 s_j350 d_j350 e_j350 x2j350 x4j350 x5j350 x6j350 x7j350 x9j350 z0j350 0
def wba_Mo_differ_257 (mc ms : Nat) (Post : Ly → St → Int32 → Nat → Nat → Prop) (K_257 : Ly → St → Nat → Nat → Int32 → Int32 → Int32 → Nat → Nat → Int32 → Int32 → Prop) (a0 : Nat) (y_h257 : Ly) (s_h257 : St) (d_h257 e_h257 : Nat) (x2h257 : Int32) (x4h257 : Int32) (x5h257 : Int32) (x6h257 : Nat) (x7h257 : Nat) (x8h257 : Int32) (x9h257 : Int32) : Prop := (d_h257 ≤ mc ∧ e_h257 ≤ ms) ∧ cl x6h257 = 13 ∧ cl x7h257 = 13 ∧ xA y_h257 s_h257 x6h257 9 x2h257 (fun x_9 : Int32 => ((((12 * x2h257) + x_9) ≤ x9h257 → Post y_h257 s_h257 x8h257 d_h257 e_h257) ∧ (¬ (((12 * x2h257) + x_9) ≤ x9h257) → xP (uO s_h257 a0 45 (some x7h257)) (fun s_10 : St => xA y_h257 s_10 x6h257 18 x9h257 (fun x_11 : Int32 => xA y_h257 s_10 x6h257 19 x9h257 (fun x_12 : Int32 => wu_Mo_methodIn y_h257 (fun (s_14 : St) (r_13 : Int32) => ((0 ≤ r_13 → ((¬ x5h257 = 3 → wja_Mo_differ_350 mc ms Post K_257 a0 y_h257 s_14 d_h257 e_h257 x2h257 x4h257 x5h257 x6h257 x7h257 x9h257 x8h257) ∧ (x5h257 = 3 → ∃ mc_20 ms_21 : Nat, (d_h257 + mc_20 ≤ mc ∧ e_h257 + ms_21 ≤ ms) ∧ wa_Mo_isWrittenSo mc_20 ms_21 y_h257 (fun (y_17 : Ly) (s_16 : St) (r_15 : Int32) (d_18 e_19 : Nat) => (d_h257 + d_18 ≤ mc ∧ e_h257 + e_19 ≤ ms) ∧ ((¬ r_15 = 0 → wja_Mo_differ_350 mc ms Post K_257 a0 y_17 s_16 (d_h257 + d_18) (e_h257 + e_19) x2h257 x4h257 x5h257 x6h257 x7h257 x9h257 x8h257) ∧ (r_15 = 0 → wja_Mo_differ_351 mc ms Post K_257 a0 y_17 s_16 (d_h257 + d_18) (e_h257 + e_19) x2h257 x4h257 x5h257 x6h257 x7h257 x9h257 x8h257 1))) s_14 a0 x6h257 x9h257 x7h257 r_13))) ∧ (¬ (0 ≤ r_13) → ((¬ x5h257 = 2 → wja_Mo_differ_351 mc ms Post K_257 a0 y_h257 s_14 d_h257 e_h257 x2h257 x4h257 x5h257 x6h257 x7h257 x9h257 x8h257 0) ∧ (x5h257 = 2 → wja_Mo_differ_351 mc ms Post K_257 a0 y_h257 s_14 d_h257 e_h257 x2h257 x4h257 x5h257 x6h257 x7h257 x9h257 x8h257 1))))) s_10 a0 x4h257 x_11 x_12))))))
def wla_Mo_differ_257 (mc ms : Nat) (Post : Ly → St → Int32 → Nat → Nat → Prop) (a0 : Nat) (y_h257 : Ly) (s_h257 : St) (d_h257 e_h257 : Nat) (x2h257 : Int32) (x4h257 : Int32) (x5h257 : Int32) (x6h257 : Nat) (x7h257 : Nat) (x8h257 : Int32) (x9h257 : Int32) : Prop := ∃ (I : Ly → St → Nat → Nat → Int32 → Int32 → Int32 → Nat → Nat → Int32 → Int32 → Prop) (μ : Ly → St → Nat → Nat → Int32 → Int32 → Int32 → Nat → Nat → Int32 → Int32 → Nat), I y_h257 s_h257 d_h257 e_h257 x2h257 x4h257 x5h257 x6h257 x7h257 x8h257 x9h257 ∧ ∀ (u1 : Ly) (u2 : St) (u3 u4 : Nat) (t0 : Int32) (t1 : Int32) (t2 : Int32) (t3 : Nat) (t4 : Nat) (t5 : Int32) (t6 : Int32), I u1 u2 u3 u4 t0 t1 t2 t3 t4 t5 t6 → wba_Mo_differ_257 mc ms Post (fun z1 z2 z3 z4 t0q t1q t2q t3q t4q t5q t6q => I z1 z2 z3 z4 t0q t1q t2q t3q t4q t5q t6q ∧ μ z1 z2 z3 z4 t0q t1q t2q t3q t4q t5q t6q < μ u1 u2 u3 u4 t0 t1 t2 t3 t4 t5 t6) a0 u1 u2 u3 u4 t0 t1 t2 t3 t4 t5 t6
def wja_Mo_differ_239 (mc ms : Nat) (Post : Ly → St → Int32 → Nat → Nat → Prop) (K_201 : Ly → St → Nat → Nat → Int32 → Int32 → Nat → Nat → Int32 → Int32 → Prop) (a0 : Nat) (y_j239 : Ly) (s_j239 : St) (d_j239 e_j239 : Nat) (x2j239 : Int32) (x4j239 : Int32) (x6j239 : Nat) (x7j239 : Nat) (x9j239 : Int32) (z0j239 : Int32) (z1j239 : Int32) : Prop := (d_j239 ≤ mc ∧ e_j239 ≤ ms) ∧ cl x6j239 = 13 ∧ cl x7j239 = 13 ∧ K_201 y_j239 s_j239 d_j239 e_j239 x2j239 x4j239 x6j239 x7j239 (z0j239 + z1j239) (x9j239 + 1)
def wba_Mo_differ_201 (mc ms : Nat) (Post : Ly → St → Int32 → Nat → Nat → Prop) (K_201 : Ly → St → Nat → Nat → Int32 → Int32 → Nat → Nat → Int32 → Int32 → Prop) (a0 : Nat) (y_h201 : Ly) (s_h201 : St) (d_h201 e_h201 : Nat) (x2h201 : Int32) (x4h201 : Int32) (x6h201 : Nat) (x7h201 : Nat) (x8h201 : Int32) (x9h201 : Int32) : Prop := (d_h201 ≤ mc ∧ e_h201 ≤ ms) ∧ cl x6h201 = 13 ∧ cl x7h201 = 13 ∧ xA y_h201 s_h201 x6h201 8 x2h201 (fun x_23 : Int32 => ((((8 * x2h201) + x_23) ≤ x9h201 → Post y_h201 s_h201 x8h201 d_h201 e_h201) ∧ (¬ (((8 * x2h201) + x_23) ≤ x9h201) → wu_Mo_fieldLike y_h201 (fun (s_25 : St) (r_24 : Int32) => ((0 ≤ r_24 → wja_Mo_differ_239 mc ms Post K_201 a0 y_h201 s_25 d_h201 e_h201 x2h201 x4h201 x6h201 x7h201 x9h201 x8h201 0) ∧ (¬ (0 ≤ r_24) → wja_Mo_differ_239 mc ms Post K_201 a0 y_h201 s_25 d_h201 e_h201 x2h201 x4h201 x6h201 x7h201 x9h201 x8h201 1))) s_h201 x6h201 x9h201 x7h201 x4h201)))
def wla_Mo_differ_201 (mc ms : Nat) (Post : Ly → St → Int32 → Nat → Nat → Prop) (a0 : Nat) (y_h201 : Ly) (s_h201 : St) (d_h201 e_h201 : Nat) (x2h201 : Int32) (x4h201 : Int32) (x6h201 : Nat) (x7h201 : Nat) (x8h201 : Int32) (x9h201 : Int32) : Prop := ∃ (I : Ly → St → Nat → Nat → Int32 → Int32 → Nat → Nat → Int32 → Int32 → Prop) (μ : Ly → St → Nat → Nat → Int32 → Int32 → Nat → Nat → Int32 → Int32 → Nat), I y_h201 s_h201 d_h201 e_h201 x2h201 x4h201 x6h201 x7h201 x8h201 x9h201 ∧ ∀ (u1 : Ly) (u2 : St) (u3 u4 : Nat) (t0 : Int32) (t1 : Int32) (t2 : Nat) (t3 : Nat) (t4 : Int32) (t5 : Int32), I u1 u2 u3 u4 t0 t1 t2 t3 t4 t5 → wba_Mo_differ_201 mc ms Post (fun z1 z2 z3 z4 t0q t1q t2q t3q t4q t5q => I z1 z2 z3 z4 t0q t1q t2q t3q t4q t5q ∧ μ z1 z2 z3 z4 t0q t1q t2q t3q t4q t5q < μ u1 u2 u3 u4 t0 t1 t2 t3 t4 t5) a0 u1 u2 u3 u4 t0 t1 t2 t3 t4 t5
def wja_Mo_differ_185 (mc ms : Nat) (Post : Ly → St → Int32 → Nat → Nat → Prop) (a0 : Nat) (y_j185 : Ly) (s_j185 : St) (d_j185 e_j185 : Nat) (z0j185 : Int32) : Prop := (d_j185 ≤ mc ∧ e_j185 ≤ ms) ∧ Post y_j185 s_j185 z0j185 d_j185 e_j185
def wja_Mo_differ_175 (mc ms : Nat) (Post : Ly → St → Int32 → Nat → Nat → Prop) (a0 : Nat) (y_j175 : Ly) (s_j175 : St) (d_j175 e_j175 : Nat) (x8j175 : Int32) : Prop := (d_j175 ≤ mc ∧ e_j175 ≤ ms) ∧ ((x8j175 = 0 → wja_Mo_differ_185 mc ms Post a0 y_j175 s_j175 d_j175 e_j175 1) ∧ (¬ (x8j175 = 0) → wja_Mo_differ_185 mc ms Post a0 y_j175 s_j175 d_j175 e_j175 0))
def wja_Mo_differ_167 (mc ms : Nat) (Post : Ly → St → Int32 → Nat → Nat → Prop) (K_117 : Ly → St → Nat → Nat → Int32 → Int32 → Nat → Nat → Int32 → Int32 → Prop) (a0 : Nat) (y_j167 : Ly) (s_j167 : St) (d_j167 e_j167 : Nat) (x2j167 : Int32) (x4j167 : Int32) (x6j167 : Nat) (x7j167 : Nat) (x9j167 : Int32) (z0j167 : Int32) : Prop := (d_j167 ≤ mc ∧ e_j167 ≤ ms) ∧ cl x6j167 = 13 ∧ cl x7j167 = 13 ∧ K_117 y_j167 s_j167 d_j167 e_j167 x2j167 x4j167 x6j167 x7j167 z0j167 (x9j167 + 1)
def wba_Mo_differ_117 (mc ms : Nat) (Post : Ly → St → Int32 → Nat → Nat → Prop) (K_117 : Ly → St → Nat → Nat → Int32 → Int32 → Nat → Nat → Int32 → Int32 → Prop) (a0 : Nat) (y_h117 : Ly) (s_h117 : St) (d_h117 e_h117 : Nat) (x2h117 : Int32) (x4h117 : Int32) (x6h117 : Nat) (x7h117 : Nat) (x8h117 : Int32) (x9h117 : Int32) : Prop := (d_h117 ≤ mc ∧ e_h117 ≤ ms) ∧ cl x6h117 = 13 ∧ cl x7h117 = 13 ∧ xA y_h117 s_h117 x6h117 7 x2h117 (fun x_28 : Int32 => ((x_28 ≤ x9h117 → wja_Mo_differ_175 mc ms Post a0 y_h117 s_h117 d_h117 e_h117 x8h117) ∧ (¬ (x_28 ≤ x9h117) → ((x8h117 = 0 → wja_Mo_differ_175 mc ms Post a0 y_h117 s_h117 d_h117 e_h117 x8h117) ∧ (¬ (x8h117 = 0) → xA y_h117 s_h117 x6h117 6 ((4 * x2h117) + x9h117) (fun x_29 : Int32 => xA y_h117 s_h117 x7h117 6 ((4 * x4h117) + x9h117) (fun x_30 : Int32 => ((¬ x_29 = x_30 → wja_Mo_differ_167 mc ms Post K_117 a0 y_h117 s_h117 d_h117 e_h117 x2h117 x4h117 x6h117 x7h117 x9h117 0) ∧ (x_29 = x_30 → wja_Mo_differ_167 mc ms Post K_117 a0 y_h117 s_h117 d_h117 e_h117 x2h117 x4h117 x6h117 x7h117 x9h117 1)))))))))
def wla_Mo_differ_117 (mc ms : Nat) (Post : Ly → St → Int32 → Nat → Nat → Prop) (a0 : Nat) (y_h117 : Ly) (s_h117 : St) (d_h117 e_h117 : Nat) (x2h117 : Int32) (x4h117 : Int32) (x6h117 : Nat) (x7h117 : Nat) (x8h117 : Int32) (x9h117 : Int32) : Prop := ∃ (I : Ly → St → Nat → Nat → Int32 → Int32 → Nat → Nat → Int32 → Int32 → Prop) (μ : Ly → St → Nat → Nat → Int32 → Int32 → Nat → Nat → Int32 → Int32 → Nat), I y_h117 s_h117 d_h117 e_h117 x2h117 x4h117 x6h117 x7h117 x8h117 x9h117 ∧ ∀ (u1 : Ly) (u2 : St) (u3 u4 : Nat) (t0 : Int32) (t1 : Int32) (t2 : Nat) (t3 : Nat) (t4 : Int32) (t5 : Int32), I u1 u2 u3 u4 t0 t1 t2 t3 t4 t5 → wba_Mo_differ_117 mc ms Post (fun z1 z2 z3 z4 t0q t1q t2q t3q t4q t5q => I z1 z2 z3 z4 t0q t1q t2q t3q t4q t5q ∧ μ z1 z2 z3 z4 t0q t1q t2q t3q t4q t5q < μ u1 u2 u3 u4 t0 t1 t2 t3 t4 t5) a0 u1 u2 u3 u4 t0 t1 t2 t3 t4 t5
def wja_Mo_differ_112 (mc ms : Nat) (Post : Ly → St → Int32 → Nat → Nat → Prop) (a0 : Nat) (y_j112 : Ly) (s_j112 : St) (d_j112 e_j112 : Nat) (x2j112 : Int32) (x4j112 : Int32) (x6j112 : Nat) (x7j112 : Nat) (z0j112 : Int32) : Prop := (d_j112 ≤ mc ∧ e_j112 ≤ ms) ∧ cl x6j112 = 13 ∧ cl x7j112 = 13 ∧ wla_Mo_differ_117 mc ms Post a0 y_j112 s_j112 d_j112 e_j112 x2j112 x4j112 x6j112 x7j112 z0j112 0
def wja_Mo_differ_111 (mc ms : Nat) (Post : Ly → St → Int32 → Nat → Nat → Prop) (a0 : Nat) (y_j111 : Ly) (s_j111 : St) (d_j111 e_j111 : Nat) (x2j111 : Int32) (x4j111 : Int32) (x6j111 : Nat) (x7j111 : Nat) : Prop := (d_j111 ≤ mc ∧ e_j111 ≤ ms) ∧ cl x6j111 = 13 ∧ cl x7j111 = 13 ∧ wja_Mo_differ_112 mc ms Post a0 y_j111 s_j111 d_j111 e_j111 x2j111 x4j111 x6j111 x7j111 0
def wa_Mo_differ (mc ms : Nat) (y : Ly) (Post : Ly → St → Int32 → Nat → Nat → Prop) (σ : St) (a0 : Nat) (v1 : Int32) (v2 : Int32) (v3 : Int32) (v4 : Int32) (v5 : Int32) : Prop := wu_Mo_isClass y (fun (s_2 : St) (r_1 : Int32) => ((r_1 = 0 → wja_Mo_differ_30 mc ms Post a0 y s_2 0 0) ∧ (¬ (r_1 = 0) → wu_Mo_isClass y (fun (s_4 : St) (r_3 : Int32) => ((r_3 = 0 → wja_Mo_differ_30 mc ms Post a0 y s_4 0 0) ∧ (¬ (r_3 = 0) → ((v5 < 0 → wja_Mo_differ_30 mc ms Post a0 y s_4 0 0) ∧ (¬ (v5 < 0) → ((v5 ≤ 3 → xQ y a0 44 v1 (fun b_5 : Nat => xQ y a0 44 v3 (fun b_7 : Nat => ((¬ v5 = 0 → ((¬ v5 = 1 → wla_Mo_differ_257 mc ms Post a0 y s_4 0 0 v2 v4 v5 b_5 b_7 0 (12 * v2)) ∧ (v5 = 1 → wla_Mo_differ_201 mc ms Post a0 y s_4 0 0 v2 v4 b_5 b_7 0 (8 * v2)))) ∧ (v5 = 0 → xA y s_4 b_5 5 v2 (fun x_26 : Int32 => xA y s_4 b_7 5 v4 (fun x_27 : Int32 => ((¬ x_26 = x_27 → wja_Mo_differ_111 mc ms Post a0 y s_4 0 0 v2 v4 b_5 b_7) ∧ (x_26 = x_27 → xA y s_4 b_5 4 v2 (fun x_31 : Int32 => xA y s_4 b_7 4 v4 (fun x_32 : Int32 => ((¬ x_31 = x_32 → wja_Mo_differ_111 mc ms Post a0 y s_4 0 0 v2 v4 b_5 b_7) ∧ (x_31 = x_32 → xA y s_4 b_5 7 v2 (fun x_33 : Int32 => xA y s_4 b_7 7 v4 (fun x_34 : Int32 => ((¬ x_33 = x_34 → wja_Mo_differ_111 mc ms Post a0 y s_4 0 0 v2 v4 b_5 b_7) ∧ (x_33 = x_34 → wja_Mo_differ_112 mc ms Post a0 y s_4 0 0 v2 v4 b_5 b_7 1))))))))))))))))) ∧ (¬ (v5 ≤ 3) → wja_Mo_differ_30 mc ms Post a0 y s_4 0 0))))))) s_2 a0 v3 v4))) σ a0 v1 v2
set_option maxHeartbeats 4000000 in
set_option maxRecDepth 100000 in
theorem ca_Mo_differ (l : Launch) (D : va_G) (g : Nat → ClassId) (F : Nat → SL) (sl : List SL) (hF : SOK F sl) (ad : Nat → Nat) (mc ms : Nat) (y : Ly) (Post : Ly → St → Int32 → Nat → Nat → Prop) (σ : St) (a0 : Nat) (v1 : Int32) (v2 : Int32) (v3 : Int32) (v4 : Int32) (v5 : Int32) (sz uz : Nat) (h_a0 : cl a0 = 14) (h : wa_Mo_differ mc ms y Post σ a0 v1 v2 v3 v4 v5) : Met l y_Mo_differ (mw y_Mo_differ b_Mo_differ 11 (some .int)) (ra_Mo_differ mc ms) (PCu g D sl [.ref (ad a0), .int v1, .int v2, .int v3, .int v4, .int v5] sz uz (ws g ad y σ)) (va_Qi (fun (r : Int32) (u : Ly × St × Nat × Nat) => Post u.1 u.2.1 r u.2.2.1 u.2.2.2) (QU D (va_A (ws g ad y σ) sz) (fun u => ws g ad u.1 u.2.1) sz uz (fun u => u.2.2.1) (fun u => u.2.2.2)) (va_A (ws g ad y σ) sz)) mc ms (va_A (ws g ad y σ) sz) := by
  refine ofIu (by decide +kernel) (Nat.le_of_ble_eq_true rfl) ?_
  intro p e s m args below meth c A Q ls H locs G hsz hP hD hS hl hret
  subst hsz
  have hl : lv_has ls 11 [(0, .ref (ad a0)), (1, .int v1), (2, .int v2), (3, .int v3), (4, .int v4), (5, .int v5)] := hl
  have hd : 0 ≤ mc ∧ 0 ≤ ms := ⟨Nat.zero_le _, Nat.zero_le _⟩
  unfold wa_Mo_differ at h
  refine lv_aload_n G.1 G.2.1 d_Mo_differ_0 rfl (lv_at hl 0 rfl) ?_
  refine lv_iload_n G.1 G.2.1 d_Mo_differ_1 rfl (lv_at hl 1 rfl) ?_
  refine lv_iload_n G.1 G.2.1 d_Mo_differ_2 rfl (lv_at hl 2 rfl) ?_
  refine ucVi (As := [.int v1, .int v2]) (rest := []) G hP hD hS (cu_Mo_isClass l D g ad y _ σ a0 v1 v2 H.size h_a0 h) w9_Mo_isClass q3661 ⟨Nat.le_of_ble_eq_true rfl, Nat.le_of_ble_eq_true rfl⟩ rfl rfl h_a0 (q := (RMo, TMo, 131)) rfl rfl hl.1 rfl (Nat.le_of_ble_eq_true rfl) rfl hd d_Mo_differ_3 (fun r_1 s_2 H locs h hP hD hS => ?_)
  have J_30 : ∀ (y_j30 : Ly) (s_j30 : St) (d_j30 e_j30 : Nat) (H : Heap) (locs : List Loc), wja_Mo_differ_30 mc ms Post a0 y_j30 s_j30 d_j30 e_j30 → va_P D CL (ws g ad y_j30 s_j30) H → va_D A (ws g ad y_j30 s_j30) → va_S A s.heap H locs → ∀ ls, lv_has ls 11 [] → W p l e (ra_Mo_differ mc ms) s m args below meth c H locs d_j30 e_j30 Q (F0 m 30 ls []) := by
    intro y_j30 s_j30 d_j30 e_j30 H locs h hP hD hS ls hl
    unfold wja_Mo_differ_30 at h
    obtain ⟨hd, h⟩ := h
    refine lv_iconst (v := (-1)) G.1 G.2.1 d_Mo_differ_30 (by decide) ?_
    exact hret _ (y_j30, s_j30, d_j30, e_j30) _ _ _ _ _ ls h hP hD hS (Nat.le_refl _) (Nat.le_refl _) hd.1 hd.2 d_Mo_differ_31
  refine lv_if_eq (tgt := 30) G.1 G.2.1 d_Mo_differ_6 (by decide) (fun c6 => ?_) (fun c6 => ?_)
  · skip
    have h := h.1 c6
    exact J_30 y s_2 0 0 H locs h hP hD hS ls (lv_sub hl [] rfl)
  · skip
    have h := h.2 c6
    refine lv_aload_n G.1 G.2.1 d_Mo_differ_9 rfl (lv_at hl 0 rfl) ?_
    refine lv_iload_n G.1 G.2.1 d_Mo_differ_10 rfl (lv_at hl 3 rfl) ?_
    refine lv_iload G.1 G.2.1 d_Mo_differ_11 (lv_at hl 4 rfl) ?_
    refine ucVi (As := [.int v3, .int v4]) (rest := []) G hP hD hS (cu_Mo_isClass l D g ad y _ s_2 a0 v3 v4 H.size h_a0 h) w9_Mo_isClass q3661 ⟨Nat.le_of_ble_eq_true rfl, Nat.le_of_ble_eq_true rfl⟩ rfl rfl h_a0 (q := (RMo, TMo, 131)) rfl rfl hl.1 rfl (Nat.le_of_ble_eq_true rfl) rfl hd d_Mo_differ_13 (fun r_3 s_4 H locs h hP hD hS => ?_)
    refine lv_if_eq (tgt := 30) G.1 G.2.1 d_Mo_differ_16 (by decide) (fun c16 => ?_) (fun c16 => ?_)
    · skip
      have h := h.1 c16
      exact J_30 y s_4 0 0 H locs h hP hD hS ls (lv_sub hl [] rfl)
    · skip
      have h := h.2 c16
      refine lv_iload G.1 G.2.1 d_Mo_differ_19 (lv_at hl 5 rfl) ?_
      refine W.eq (g2 := F0 m 21 ls [.int v5]) rfl ?_
      refine lv_if_lt (tgt := 30) G.1 G.2.1 d_Mo_differ_21 (by decide) (fun c21 => ?_) (fun c21 => ?_)
      · skip
        have h := h.1 c21
        exact J_30 y s_4 0 0 H locs h hP hD hS ls (lv_sub hl [] rfl)
      · skip
        have h := h.2 c21
        refine lv_iload G.1 G.2.1 d_Mo_differ_24 (lv_at hl 5 rfl) ?_
        refine lv_iconst (v := 3) G.1 G.2.1 d_Mo_differ_26 (by decide) ?_
        refine lv_icmp_le (tgt := 32) G.1 G.2.1 d_Mo_differ_27 (by decide) (fun c27 => ?_) (fun c27 => ?_)
        · skip
          have h := h.1 c27
          refine lv_aload_n G.1 G.2.1 d_Mo_differ_32 rfl (lv_at hl 0 rfl) ?_
          refine ugf (v := .ref (yP y a0 44)) G hP h_a0 iMo rfl 44 (by decide) rfl q3108 rfl rfl d_Mo_differ_33 ?_
          refine lv_iload_n G.1 G.2.1 d_Mo_differ_36 rfl (lv_at hl 1 rfl) ?_
          refine uqald G hP (kdp h_a0 rfl) (typ h_a0 rfl) rfl h d_Mo_differ_37 (fun b_5 n_6 h => ?_)
          refine lv_astore (lv' := [(6, .ref (ad b_5)), (0, .ref (ad a0)), (1, .int v1), (2, .int v2), (3, .int v3), (4, .int v4), (5, .int v5)]) G.1 G.2.1 d_Mo_differ_38 hl (by decide) rfl (fun ls hl => ?_)
          refine lv_aload_n G.1 G.2.1 d_Mo_differ_40 rfl (lv_at hl 1 rfl) ?_
          refine ugf (v := .ref (yP y a0 44)) G hP h_a0 iMo rfl 44 (by decide) rfl q3108 rfl rfl d_Mo_differ_41 ?_
          refine lv_iload_n G.1 G.2.1 d_Mo_differ_44 rfl (lv_at hl 4 rfl) ?_
          refine W.eq (g2 := F0 m 45 ls [.int v3, .ref (yP y a0 44)]) rfl ?_
          refine uqald G hP (kdp h_a0 rfl) (typ h_a0 rfl) rfl h d_Mo_differ_45 (fun b_7 n_8 h => ?_)
          refine lv_astore (lv' := [(7, .ref (ad b_7)), (6, .ref (ad b_5)), (0, .ref (ad a0)), (1, .int v1), (2, .int v2), (3, .int v3), (4, .int v4), (5, .int v5)]) G.1 G.2.1 d_Mo_differ_46 hl (by decide) rfl (fun ls hl => ?_)
          refine lv_iload G.1 G.2.1 d_Mo_differ_48 (lv_at hl 7 rfl) ?_
          refine lv_if_ne (tgt := 186) G.1 G.2.1 d_Mo_differ_50 (by decide) (fun c50 => ?_) (fun c50 => ?_)
          · skip
            have h := h.1 c50
            refine lv_iconst (v := 0) G.1 G.2.1 d_Mo_differ_186 (by decide) ?_
            refine lv_istore (lv' := [(8, .int 0), (7, .ref (ad b_7)), (6, .ref (ad b_5)), (0, .ref (ad a0)), (1, .int v1), (2, .int v2), (3, .int v3), (4, .int v4), (5, .int v5)]) G.1 G.2.1 d_Mo_differ_187 hl (by decide) rfl (fun ls hl => ?_)
            refine lv_iload G.1 G.2.1 d_Mo_differ_189 (lv_at hl 8 rfl) ?_
            refine lv_iconst (v := 1) G.1 G.2.1 d_Mo_differ_191 (by decide) ?_
            refine lv_icmp_ne (tgt := 251) G.1 G.2.1 d_Mo_differ_192 (by decide) (fun c192 => ?_) (fun c192 => ?_)
            · skip
              have h := h.1 c192
              refine lv_bipush (v := 12) G.1 G.2.1 d_Mo_differ_251 (by decide) ?_
              refine lv_iload_n G.1 G.2.1 d_Mo_differ_253 rfl (lv_at hl 5 rfl) ?_
              refine lv_imul G.1 G.2.1 d_Mo_differ_254 ?_
              refine W.eq (g2 := F0 m 255 ls [.int (12 * v2)]) rfl ?_
              refine lv_istore (lv' := [(9, .int (12 * v2)), (8, .int 0), (7, .ref (ad b_7)), (6, .ref (ad b_5)), (0, .ref (ad a0)), (1, .int v1), (2, .int v2), (3, .int v3), (4, .int v4), (5, .int v5)]) G.1 G.2.1 d_Mo_differ_255 hl (by decide) rfl (fun ls hl => ?_)
              unfold wla_Mo_differ_257 at h
              obtain ⟨I_257, μ_257, hI_257, hB_257⟩ := h
              have L_257 : ∀ (n_257 : Nat) (y_h257 : Ly) (s_h257 : St) (d_h257 e_h257 : Nat) (x2h257 : Int32) (x4h257 : Int32) (x5h257 : Int32) (x6h257 : Nat) (x7h257 : Nat) (x8h257 : Int32) (x9h257 : Int32), μ_257 y_h257 s_h257 d_h257 e_h257 x2h257 x4h257 x5h257 x6h257 x7h257 x8h257 x9h257 < n_257 → I_257 y_h257 s_h257 d_h257 e_h257 x2h257 x4h257 x5h257 x6h257 x7h257 x8h257 x9h257 → ∀ (H : Heap) (locs : List Loc), va_P D CL (ws g ad y_h257 s_h257) H → va_D A (ws g ad y_h257 s_h257) → va_S A s.heap H locs → ∀ ls, lv_has ls 11 [(0, .ref (ad a0)), (2, .int x2h257), (4, .int x4h257), (5, .int x5h257), (6, .ref (ad x6h257)), (7, .ref (ad x7h257)), (8, .int x8h257), (9, .int x9h257)] → W p l e (ra_Mo_differ mc ms) s m args below meth c H locs d_h257 e_h257 Q (F0 m 257 ls []) := by
                intro n_257
                induction n_257 with
                | zero => intro y_h257 s_h257 d_h257 e_h257 x2h257 x4h257 x5h257 x6h257 x7h257 x8h257 x9h257 hμ; exact absurd hμ (Nat.not_lt_zero _)
                | succ n_257 ih_257 =>
                  intro y_h257 s_h257 d_h257 e_h257 x2h257 x4h257 x5h257 x6h257 x7h257 x8h257 x9h257 hμ_257 hJ H locs hP hD hS ls hl
                  obtain ⟨K_257, hK_257, h⟩ : ∃ K : Ly → St → Nat → Nat → Int32 → Int32 → Int32 → Nat → Nat → Int32 → Int32 → Prop, (∀ z1 z2 z3 z4 (t0 : Int32) (t1 : Int32) (t2 : Int32) (t3 : Nat) (t4 : Nat) (t5 : Int32) (t6 : Int32), K z1 z2 z3 z4 t0 t1 t2 t3 t4 t5 t6 → I_257 z1 z2 z3 z4 t0 t1 t2 t3 t4 t5 t6 ∧ μ_257 z1 z2 z3 z4 t0 t1 t2 t3 t4 t5 t6 < μ_257 y_h257 s_h257 d_h257 e_h257 x2h257 x4h257 x5h257 x6h257 x7h257 x8h257 x9h257) ∧ wba_Mo_differ_257 mc ms Post K a0 y_h257 s_h257 d_h257 e_h257 x2h257 x4h257 x5h257 x6h257 x7h257 x8h257 x9h257 := ⟨_, fun _ _ _ _ _ _ _ _ _ _ _ h => h, hB_257 y_h257 s_h257 d_h257 e_h257 x2h257 x4h257 x5h257 x6h257 x7h257 x8h257 x9h257 hJ⟩
                  unfold wba_Mo_differ_257 at h
                  obtain ⟨hd, h⟩ := h
                  obtain ⟨c_x6h257, h⟩ := h
                  obtain ⟨c_x7h257, h⟩ := h
                  refine lv_iload G.1 G.2.1 d_Mo_differ_257 (lv_at hl 7 rfl) ?_
                  refine lv_bipush (v := 12) G.1 G.2.1 d_Mo_differ_259 (by decide) ?_
                  refine lv_iload_n G.1 G.2.1 d_Mo_differ_261 rfl (lv_at hl 1 rfl) ?_
                  refine lv_imul G.1 G.2.1 d_Mo_differ_262 ?_
                  refine lv_aload G.1 G.2.1 d_Mo_differ_263 (lv_at hl 4 rfl) ?_
                  refine ugfN (v := .ref (yP y_h257 x6h257 9)) G hP c_x6h257 iMw rfl 9 (by decide) rfl q2722 rfl rfl d_Mo_differ_265 ?_
                  refine lv_iload_n G.1 G.2.1 d_Mo_differ_268 rfl (lv_at hl 1 rfl) ?_
                  refine uiald G hP (kdp c_x6h257 rfl) (typ c_x6h257 rfl) h d_Mo_differ_269 (fun x_9 h => ?_)
                  refine lv_iadd G.1 G.2.1 d_Mo_differ_270 ?_
                  refine lv_icmp_ge (tgt := 360) G.1 G.2.1 d_Mo_differ_271 (by decide) (fun c271 => ?_) (fun c271 => ?_)
                  · skip
                    have h := h.1 c271
                    refine lv_iload G.1 G.2.1 d_Mo_differ_360 (lv_at hl 6 rfl) ?_
                    refine W.eq (g2 := F0 m 362 ls [.int x8h257]) rfl ?_
                    exact hret _ (y_h257, s_h257, d_h257, e_h257) _ _ _ _ _ ls h hP hD hS (Nat.le_refl _) (Nat.le_refl _) hd.1 hd.2 d_Mo_differ_362
                  · skip
                    have h := h.2 c271
                    refine lv_aload_n G.1 G.2.1 d_Mo_differ_274 rfl (lv_at hl 0 rfl) ?_
                    refine W.eq (g2 := F0 m 275 ls [.ref (ad a0)]) rfl ?_
                    refine lv_aload G.1 G.2.1 d_Mo_differ_275 (lv_at hl 5 rfl) ?_
                    refine upf G hP hD hS h 45 putO h_a0 iMo tMo tMo_ok nMo rfl (by decide) rfl q3109 rfl rfl fO rfl rfl d_Mo_differ_277 (fun s_10 H locs h hP hD hS => ?_)
                    refine lv_aload_n G.1 G.2.1 d_Mo_differ_280 rfl (lv_at hl 0 rfl) ?_
                    refine lv_iload G.1 G.2.1 d_Mo_differ_281 (lv_at hl 2 rfl) ?_
                    refine lv_aload G.1 G.2.1 d_Mo_differ_283 (lv_at hl 4 rfl) ?_
                    refine ugfN (v := .ref (yP y_h257 x6h257 18)) G hP c_x6h257 iMw rfl 18 (by decide) rfl q2740 rfl rfl d_Mo_differ_285 ?_
                    refine lv_iload G.1 G.2.1 d_Mo_differ_288 (lv_at hl 7 rfl) ?_
                    refine uiald G hP (kdp c_x6h257 rfl) (typ c_x6h257 rfl) h d_Mo_differ_290 (fun x_11 h => ?_)
                    refine lv_aload G.1 G.2.1 d_Mo_differ_291 (lv_at hl 4 rfl) ?_
                    refine ugfN (v := .ref (yP y_h257 x6h257 19)) G hP c_x6h257 iMw rfl 19 (by decide) rfl q2742 rfl rfl d_Mo_differ_293 ?_
                    refine lv_iload G.1 G.2.1 d_Mo_differ_296 (lv_at hl 7 rfl) ?_
                    refine uiald G hP (kdp c_x6h257 rfl) (typ c_x6h257 rfl) h d_Mo_differ_298 (fun x_12 h => ?_)
                    refine W.eq (g2 := F0 m 299 ls [.int x_12, .int x_11, .int x4h257, .ref (ad a0)]) rfl ?_
                    refine ucVi (As := [.int x4h257, .int x_11, .int x_12]) (rest := []) G hP hD hS (cu_Mo_methodIn l D g ad y_h257 _ s_10 a0 x4h257 x_11 x_12 H.size h_a0 h) w9_Mo_methodIn q3697 ⟨Nat.le_of_ble_eq_true rfl, Nat.le_of_ble_eq_true rfl⟩ rfl rfl h_a0 (q := (RMo, TMo, 131)) rfl rfl hl.1 rfl (Nat.le_of_ble_eq_true rfl) rfl hd d_Mo_differ_299 (fun r_13 s_14 H locs h hP hD hS => ?_)
                    refine lv_istore (lv' := [(10, .int r_13), (0, .ref (ad a0)), (2, .int x2h257), (4, .int x4h257), (5, .int x5h257), (6, .ref (ad x6h257)), (7, .ref (ad x7h257)), (8, .int x8h257), (9, .int x9h257)]) G.1 G.2.1 d_Mo_differ_302 hl (by decide) rfl (fun ls hl => ?_)
                    refine lv_iload G.1 G.2.1 d_Mo_differ_304 (lv_at hl 7 rfl) ?_
                    refine lv_iload G.1 G.2.1 d_Mo_differ_306 (lv_at hl 0 rfl) ?_
                    have J_351 : ∀ (y_j351 : Ly) (s_j351 : St) (d_j351 e_j351 : Nat) (x2j351 : Int32) (x4j351 : Int32) (x5j351 : Int32) (x6j351 : Nat) (x7j351 : Nat) (x9j351 : Int32) (z0j351 : Int32) (z1j351 : Int32) (H : Heap) (locs : List Loc), wja_Mo_differ_351 mc ms Post K_257 a0 y_j351 s_j351 d_j351 e_j351 x2j351 x4j351 x5j351 x6j351 x7j351 x9j351 z0j351 z1j351 → va_P D CL (ws g ad y_j351 s_j351) H → va_D A (ws g ad y_j351 s_j351) → va_S A s.heap H locs → ∀ ls, lv_has ls 11 [(0, .ref (ad a0)), (2, .int x2j351), (4, .int x4j351), (5, .int x5j351), (6, .ref (ad x6j351)), (7, .ref (ad x7j351)), (9, .int x9j351)] → W p l e (ra_Mo_differ mc ms) s m args below meth c H locs d_j351 e_j351 Q (F0 m 351 ls [.int z1j351, .int z0j351]) := by
                      intro y_j351 s_j351 d_j351 e_j351 x2j351 x4j351 x5j351 x6j351 x7j351 x9j351 z0j351 z1j351 H locs h hP hD hS ls hl
                      unfold wja_Mo_differ_351 at h
                      obtain ⟨hd, h⟩ := h
                      obtain ⟨c_x6j351, h⟩ := h
                      obtain ⟨c_x7j351, h⟩ := h
                      refine lv_iadd G.1 G.2.1 d_Mo_differ_351 ?_
                      refine lv_istore (lv' := [(8, .int (z0j351 + z1j351)), (0, .ref (ad a0)), (2, .int x2j351), (4, .int x4j351), (5, .int x5j351), (6, .ref (ad x6j351)), (7, .ref (ad x7j351)), (9, .int x9j351)]) G.1 G.2.1 d_Mo_differ_352 hl (by decide) rfl (fun ls hl => ?_)
                      refine lv_iinc (v := x9j351 + 1) (lv' := [(9, .int (x9j351 + 1)), (8, .int (z0j351 + z1j351)), (0, .ref (ad a0)), (2, .int x2j351), (4, .int x4j351), (5, .int x5j351), (6, .ref (ad x6j351)), (7, .ref (ad x7j351))]) G.1 G.2.1 d_Mo_differ_354 hl (k := 7) rfl rfl (by decide) rfl (fun ls hl => ?_)
                      refine lv_goto (tgt := 257) G.1 G.2.1 d_Mo_differ_357 (by decide) ?_
                      have h := hK_257 y_j351 s_j351 d_j351 e_j351 x2j351 x4j351 x5j351 x6j351 x7j351 (z0j351 + z1j351) (x9j351 + 1) h
                      exact ih_257 y_j351 s_j351 d_j351 e_j351 x2j351 x4j351 x5j351 x6j351 x7j351 (z0j351 + z1j351) (x9j351 + 1) (Nat.lt_of_lt_of_le h.2 (Nat.le_of_lt_succ hμ_257)) h.1 H locs hP hD hS ls (lv_sub hl [2, 3, 4, 5, 6, 7, 1, 0] rfl)
                    refine lv_if_ge (tgt := 325) G.1 G.2.1 d_Mo_differ_308 (by decide) (fun c308 => ?_) (fun c308 => ?_)
                    · skip
                      have h := h.1 c308
                      refine lv_iload G.1 G.2.1 d_Mo_differ_325 (lv_at hl 4 rfl) ?_
                      refine lv_iconst (v := 3) G.1 G.2.1 d_Mo_differ_327 (by decide) ?_
                      have J_350 : ∀ (y_j350 : Ly) (s_j350 : St) (d_j350 e_j350 : Nat) (x2j350 : Int32) (x4j350 : Int32) (x5j350 : Int32) (x6j350 : Nat) (x7j350 : Nat) (x9j350 : Int32) (z0j350 : Int32) (H : Heap) (locs : List Loc), wja_Mo_differ_350 mc ms Post K_257 a0 y_j350 s_j350 d_j350 e_j350 x2j350 x4j350 x5j350 x6j350 x7j350 x9j350 z0j350 → va_P D CL (ws g ad y_j350 s_j350) H → va_D A (ws g ad y_j350 s_j350) → va_S A s.heap H locs → ∀ ls, lv_has ls 11 [(0, .ref (ad a0)), (2, .int x2j350), (4, .int x4j350), (5, .int x5j350), (6, .ref (ad x6j350)), (7, .ref (ad x7j350)), (9, .int x9j350)] → W p l e (ra_Mo_differ mc ms) s m args below meth c H locs d_j350 e_j350 Q (F0 m 350 ls [.int z0j350]) := by
                        intro y_j350 s_j350 d_j350 e_j350 x2j350 x4j350 x5j350 x6j350 x7j350 x9j350 z0j350 H locs h hP hD hS ls hl
                        unfold wja_Mo_differ_350 at h
                        obtain ⟨hd, h⟩ := h
                        obtain ⟨c_x6j350, h⟩ := h
                        obtain ⟨c_x7j350, h⟩ := h
                        refine lv_iconst (v := 0) G.1 G.2.1 d_Mo_differ_350 (by decide) ?_
                        exact J_351 y_j350 s_j350 d_j350 e_j350 x2j350 x4j350 x5j350 x6j350 x7j350 x9j350 z0j350 0 H locs h hP hD hS ls (lv_sub hl [0, 1, 2, 3, 4, 5, 6] rfl)
                      refine lv_icmp_ne (tgt := 350) G.1 G.2.1 d_Mo_differ_328 (by decide) (fun c328 => ?_) (fun c328 => ?_)
                      · skip
                        have h := h.1 c328
                        exact J_350 y_h257 s_14 d_h257 e_h257 x2h257 x4h257 x5h257 x6h257 x7h257 x9h257 x8h257 H locs h hP hD hS ls (lv_sub hl [1, 2, 3, 4, 5, 6, 8] rfl)
                      · skip
                        have h := h.2 c328
                        refine lv_aload_n G.1 G.2.1 d_Mo_differ_331 rfl (lv_at hl 1 rfl) ?_
                        refine lv_aload G.1 G.2.1 d_Mo_differ_332 (lv_at hl 5 rfl) ?_
                        refine lv_iload G.1 G.2.1 d_Mo_differ_334 (lv_at hl 8 rfl) ?_
                        refine lv_aload G.1 G.2.1 d_Mo_differ_336 (lv_at hl 6 rfl) ?_
                        refine W.eq (g2 := F0 m 338 ls [.ref (ad x7h257), .int x9h257, .ref (ad x6h257), .ref (ad a0), .int x8h257]) rfl ?_
                        refine lv_iload G.1 G.2.1 d_Mo_differ_338 (lv_at hl 0 rfl) ?_
                        obtain ⟨mc_20, ms_21, hr_22, h⟩ := h
                        refine utVi (As := [.ref (ad x6h257), .int x9h257, .ref (ad x7h257), .int r_13]) (rest := [.int x8h257]) G hP hD hS (ca_Mo_isWrittenSo l D g F sl hF ad mc_20 ms_21 y_h257 _ s_14 a0 x6h257 x9h257 x7h257 r_13 H.size (us H) h_a0 c_x6h257 c_x7h257 h) w9_Mo_isWrittenSo q4200 ⟨Nat.le_of_ble_eq_true rfl, Nat.le_of_ble_eq_true rfl⟩ rfl rfl h_a0 (q := (RMo, TMo, 131)) rfl rfl hl.1 rfl (Nat.le_of_ble_eq_true rfl) rfl hr_22 d_Mo_differ_340 (fun r_15 y_17 s_16 d_18 e_19 H locs h hP hD hS => ?_)
                        have hl := lv_sub (l' := [(0, .ref (ad a0)), (2, .int x2h257), (4, .int x4h257), (5, .int x5h257), (6, .ref (ad x6h257)), (7, .ref (ad x7h257)), (9, .int x9h257)]) hl [1, 2, 3, 4, 5, 6, 8] rfl
                        obtain ⟨hd, h⟩ := h
                        refine lv_if_ne (tgt := 350) G.1 G.2.1 d_Mo_differ_343 (by decide) (fun c343 => ?_) (fun c343 => ?_)
                        · skip
                          have h := h.1 c343
                          exact J_350 y_17 s_16 (d_h257 + d_18) (e_h257 + e_19) x2h257 x4h257 x5h257 x6h257 x7h257 x9h257 x8h257 H locs h hP hD hS ls (lv_sub hl [0, 1, 2, 3, 4, 5, 6] rfl)
                        · skip
                          have h := h.2 c343
                          refine lv_iconst (v := 1) G.1 G.2.1 d_Mo_differ_346 (by decide) ?_
                          refine lv_goto (tgt := 351) G.1 G.2.1 d_Mo_differ_347 (by decide) ?_
                          exact J_351 y_17 s_16 (d_h257 + d_18) (e_h257 + e_19) x2h257 x4h257 x5h257 x6h257 x7h257 x9h257 x8h257 1 H locs h hP hD hS ls (lv_sub hl [0, 1, 2, 3, 4, 5, 6] rfl)
                    · skip
                      have h := h.2 c308
                      refine lv_iload G.1 G.2.1 d_Mo_differ_311 (lv_at hl 4 rfl) ?_
                      refine lv_iconst (v := 2) G.1 G.2.1 d_Mo_differ_313 (by decide) ?_
                      refine lv_icmp_ne (tgt := 321) G.1 G.2.1 d_Mo_differ_314 (by decide) (fun c314 => ?_) (fun c314 => ?_)
                      · skip
                        have h := h.1 c314
                        refine lv_iconst (v := 0) G.1 G.2.1 d_Mo_differ_321 (by decide) ?_
                        refine lv_goto (tgt := 351) G.1 G.2.1 d_Mo_differ_322 (by decide) ?_
                        exact J_351 y_h257 s_14 d_h257 e_h257 x2h257 x4h257 x5h257 x6h257 x7h257 x9h257 x8h257 0 H locs h hP hD hS ls (lv_sub hl [1, 2, 3, 4, 5, 6, 8] rfl)
                      · skip
                        have h := h.2 c314
                        refine lv_iconst (v := 1) G.1 G.2.1 d_Mo_differ_317 (by decide) ?_
                        refine lv_goto (tgt := 351) G.1 G.2.1 d_Mo_differ_318 (by decide) ?_
                        exact J_351 y_h257 s_14 d_h257 e_h257 x2h257 x4h257 x5h257 x6h257 x7h257 x9h257 x8h257 1 H locs h hP hD hS ls (lv_sub hl [1, 2, 3, 4, 5, 6, 8] rfl)
              exact L_257 _ y s_4 0 0 v2 v4 v5 b_5 b_7 0 (12 * v2) (Nat.lt_succ_self _) hI_257 H locs hP hD hS ls (lv_sub hl [4, 6, 8, 9, 3, 2, 1, 0] rfl)
            · skip
              have h := h.2 c192
              refine lv_bipush (v := 8) G.1 G.2.1 d_Mo_differ_195 (by decide) ?_
              refine lv_iload_n G.1 G.2.1 d_Mo_differ_197 rfl (lv_at hl 5 rfl) ?_
              refine lv_imul G.1 G.2.1 d_Mo_differ_198 ?_
              refine W.eq (g2 := F0 m 199 ls [.int (8 * v2)]) rfl ?_
              refine lv_istore (lv' := [(9, .int (8 * v2)), (8, .int 0), (7, .ref (ad b_7)), (6, .ref (ad b_5)), (0, .ref (ad a0)), (1, .int v1), (2, .int v2), (3, .int v3), (4, .int v4), (5, .int v5)]) G.1 G.2.1 d_Mo_differ_199 hl (by decide) rfl (fun ls hl => ?_)
              unfold wla_Mo_differ_201 at h
              obtain ⟨I_201, μ_201, hI_201, hB_201⟩ := h
              have L_201 : ∀ (n_201 : Nat) (y_h201 : Ly) (s_h201 : St) (d_h201 e_h201 : Nat) (x2h201 : Int32) (x4h201 : Int32) (x6h201 : Nat) (x7h201 : Nat) (x8h201 : Int32) (x9h201 : Int32), μ_201 y_h201 s_h201 d_h201 e_h201 x2h201 x4h201 x6h201 x7h201 x8h201 x9h201 < n_201 → I_201 y_h201 s_h201 d_h201 e_h201 x2h201 x4h201 x6h201 x7h201 x8h201 x9h201 → ∀ (H : Heap) (locs : List Loc), va_P D CL (ws g ad y_h201 s_h201) H → va_D A (ws g ad y_h201 s_h201) → va_S A s.heap H locs → ∀ ls, lv_has ls 11 [(2, .int x2h201), (4, .int x4h201), (6, .ref (ad x6h201)), (7, .ref (ad x7h201)), (8, .int x8h201), (9, .int x9h201)] → W p l e (ra_Mo_differ mc ms) s m args below meth c H locs d_h201 e_h201 Q (F0 m 201 ls []) := by
                intro n_201
                induction n_201 with
                | zero => intro y_h201 s_h201 d_h201 e_h201 x2h201 x4h201 x6h201 x7h201 x8h201 x9h201 hμ; exact absurd hμ (Nat.not_lt_zero _)
                | succ n_201 ih_201 =>
                  intro y_h201 s_h201 d_h201 e_h201 x2h201 x4h201 x6h201 x7h201 x8h201 x9h201 hμ_201 hJ H locs hP hD hS ls hl
                  obtain ⟨K_201, hK_201, h⟩ : ∃ K : Ly → St → Nat → Nat → Int32 → Int32 → Nat → Nat → Int32 → Int32 → Prop, (∀ z1 z2 z3 z4 (t0 : Int32) (t1 : Int32) (t2 : Nat) (t3 : Nat) (t4 : Int32) (t5 : Int32), K z1 z2 z3 z4 t0 t1 t2 t3 t4 t5 → I_201 z1 z2 z3 z4 t0 t1 t2 t3 t4 t5 ∧ μ_201 z1 z2 z3 z4 t0 t1 t2 t3 t4 t5 < μ_201 y_h201 s_h201 d_h201 e_h201 x2h201 x4h201 x6h201 x7h201 x8h201 x9h201) ∧ wba_Mo_differ_201 mc ms Post K a0 y_h201 s_h201 d_h201 e_h201 x2h201 x4h201 x6h201 x7h201 x8h201 x9h201 := ⟨_, fun _ _ _ _ _ _ _ _ _ _ h => h, hB_201 y_h201 s_h201 d_h201 e_h201 x2h201 x4h201 x6h201 x7h201 x8h201 x9h201 hJ⟩
                  unfold wba_Mo_differ_201 at h
                  obtain ⟨hd, h⟩ := h
                  obtain ⟨c_x6h201, h⟩ := h
                  obtain ⟨c_x7h201, h⟩ := h
                  refine lv_iload G.1 G.2.1 d_Mo_differ_201 (lv_at hl 5 rfl) ?_
                  refine lv_bipush (v := 8) G.1 G.2.1 d_Mo_differ_203 (by decide) ?_
                  refine lv_iload_n G.1 G.2.1 d_Mo_differ_205 rfl (lv_at hl 0 rfl) ?_
                  refine lv_imul G.1 G.2.1 d_Mo_differ_206 ?_
                  refine lv_aload G.1 G.2.1 d_Mo_differ_207 (lv_at hl 2 rfl) ?_
                  refine ugfN (v := .ref (yP y_h201 x6h201 8)) G hP c_x6h201 iMw rfl 8 (by decide) rfl q2720 rfl rfl d_Mo_differ_209 ?_
                  refine lv_iload_n G.1 G.2.1 d_Mo_differ_212 rfl (lv_at hl 0 rfl) ?_
                  refine uiald G hP (kdp c_x6h201 rfl) (typ c_x6h201 rfl) h d_Mo_differ_213 (fun x_23 h => ?_)
                  refine lv_iadd G.1 G.2.1 d_Mo_differ_214 ?_
                  refine lv_icmp_ge (tgt := 248) G.1 G.2.1 d_Mo_differ_215 (by decide) (fun c215 => ?_) (fun c215 => ?_)
                  · skip
                    have h := h.1 c215
                    refine lv_iload G.1 G.2.1 d_Mo_differ_248 (lv_at hl 4 rfl) ?_
                    refine W.eq (g2 := F0 m 250 ls [.int x8h201]) rfl ?_
                    exact hret _ (y_h201, s_h201, d_h201, e_h201) _ _ _ _ _ ls h hP hD hS (Nat.le_refl _) (Nat.le_refl _) hd.1 hd.2 d_Mo_differ_250
                  · skip
                    have h := h.2 c215
                    refine lv_iload G.1 G.2.1 d_Mo_differ_218 (lv_at hl 4 rfl) ?_
                    refine W.eq (g2 := F0 m 220 ls [.int x8h201]) rfl ?_
                    refine lv_aload G.1 G.2.1 d_Mo_differ_220 (lv_at hl 2 rfl) ?_
                    refine lv_iload G.1 G.2.1 d_Mo_differ_222 (lv_at hl 5 rfl) ?_
                    refine lv_aload G.1 G.2.1 d_Mo_differ_224 (lv_at hl 3 rfl) ?_
                    refine lv_iload G.1 G.2.1 d_Mo_differ_226 (lv_at hl 1 rfl) ?_
                    refine ucSi (As := [.ref (ad x6h201), .int x9h201, .ref (ad x7h201), .int x4h201]) (rest := [.int x8h201]) G hP hD hS (cu_Mo_fieldLike l D g ad y_h201 _ s_h201 x6h201 x9h201 x7h201 x4h201 H.size c_x6h201 c_x7h201 h) w9_Mo_fieldLike q4197 ⟨Nat.le_of_ble_eq_true rfl, Nat.le_of_ble_eq_true rfl⟩ rfl rfl hl.1 rfl (Nat.le_of_ble_eq_true rfl) rfl hd d_Mo_differ_228 (fun r_24 s_25 H locs h hP hD hS => ?_)
                    have J_239 : ∀ (y_j239 : Ly) (s_j239 : St) (d_j239 e_j239 : Nat) (x2j239 : Int32) (x4j239 : Int32) (x6j239 : Nat) (x7j239 : Nat) (x9j239 : Int32) (z0j239 : Int32) (z1j239 : Int32) (H : Heap) (locs : List Loc), wja_Mo_differ_239 mc ms Post K_201 a0 y_j239 s_j239 d_j239 e_j239 x2j239 x4j239 x6j239 x7j239 x9j239 z0j239 z1j239 → va_P D CL (ws g ad y_j239 s_j239) H → va_D A (ws g ad y_j239 s_j239) → va_S A s.heap H locs → ∀ ls, lv_has ls 11 [(2, .int x2j239), (4, .int x4j239), (6, .ref (ad x6j239)), (7, .ref (ad x7j239)), (9, .int x9j239)] → W p l e (ra_Mo_differ mc ms) s m args below meth c H locs d_j239 e_j239 Q (F0 m 239 ls [.int z1j239, .int z0j239]) := by
                      intro y_j239 s_j239 d_j239 e_j239 x2j239 x4j239 x6j239 x7j239 x9j239 z0j239 z1j239 H locs h hP hD hS ls hl
                      unfold wja_Mo_differ_239 at h
                      obtain ⟨hd, h⟩ := h
                      obtain ⟨c_x6j239, h⟩ := h
                      obtain ⟨c_x7j239, h⟩ := h
                      refine lv_iadd G.1 G.2.1 d_Mo_differ_239 ?_
                      refine lv_istore (lv' := [(8, .int (z0j239 + z1j239)), (2, .int x2j239), (4, .int x4j239), (6, .ref (ad x6j239)), (7, .ref (ad x7j239)), (9, .int x9j239)]) G.1 G.2.1 d_Mo_differ_240 hl (by decide) rfl (fun ls hl => ?_)
                      refine lv_iinc (v := x9j239 + 1) (lv' := [(9, .int (x9j239 + 1)), (8, .int (z0j239 + z1j239)), (2, .int x2j239), (4, .int x4j239), (6, .ref (ad x6j239)), (7, .ref (ad x7j239))]) G.1 G.2.1 d_Mo_differ_242 hl (k := 5) rfl rfl (by decide) rfl (fun ls hl => ?_)
                      refine lv_goto (tgt := 201) G.1 G.2.1 d_Mo_differ_245 (by decide) ?_
                      have h := hK_201 y_j239 s_j239 d_j239 e_j239 x2j239 x4j239 x6j239 x7j239 (z0j239 + z1j239) (x9j239 + 1) h
                      exact ih_201 y_j239 s_j239 d_j239 e_j239 x2j239 x4j239 x6j239 x7j239 (z0j239 + z1j239) (x9j239 + 1) (Nat.lt_of_lt_of_le h.2 (Nat.le_of_lt_succ hμ_201)) h.1 H locs hP hD hS ls (lv_sub hl [2, 3, 4, 5, 1, 0] rfl)
                    refine lv_if_ge (tgt := 238) G.1 G.2.1 d_Mo_differ_231 (by decide) (fun c231 => ?_) (fun c231 => ?_)
                    · skip
                      have h := h.1 c231
                      refine lv_iconst (v := 0) G.1 G.2.1 d_Mo_differ_238 (by decide) ?_
                      exact J_239 y_h201 s_25 d_h201 e_h201 x2h201 x4h201 x6h201 x7h201 x9h201 x8h201 0 H locs h hP hD hS ls (lv_sub hl [0, 1, 2, 3, 5] rfl)
                    · skip
                      have h := h.2 c231
                      refine lv_iconst (v := 1) G.1 G.2.1 d_Mo_differ_234 (by decide) ?_
                      refine lv_goto (tgt := 239) G.1 G.2.1 d_Mo_differ_235 (by decide) ?_
                      exact J_239 y_h201 s_25 d_h201 e_h201 x2h201 x4h201 x6h201 x7h201 x9h201 x8h201 1 H locs h hP hD hS ls (lv_sub hl [0, 1, 2, 3, 5] rfl)
              exact L_201 _ y s_4 0 0 v2 v4 b_5 b_7 0 (8 * v2) (Nat.lt_succ_self _) hI_201 H locs hP hD hS ls (lv_sub hl [6, 8, 3, 2, 1, 0] rfl)
          · skip
            have h := h.2 c50
            refine lv_aload G.1 G.2.1 d_Mo_differ_53 (lv_at hl 1 rfl) ?_
            refine ugfN (v := .ref (yP y b_5 5)) G hP (oa_14 h_a0 n_6) iMw rfl 5 (by decide) rfl q2714 rfl rfl d_Mo_differ_55 ?_
            refine lv_iload_n G.1 G.2.1 d_Mo_differ_58 rfl (lv_at hl 4 rfl) ?_
            refine uiald G hP (kdp (oa_14 h_a0 n_6) rfl) (typ (oa_14 h_a0 n_6) rfl) h d_Mo_differ_59 (fun x_26 h => ?_)
            refine lv_aload G.1 G.2.1 d_Mo_differ_60 (lv_at hl 0 rfl) ?_
            refine ugfN (v := .ref (yP y b_7 5)) G hP (oa_14 h_a0 n_8) iMw rfl 5 (by decide) rfl q2714 rfl rfl d_Mo_differ_62 ?_
            refine lv_iload G.1 G.2.1 d_Mo_differ_65 (lv_at hl 6 rfl) ?_
            refine uiald G hP (kdp (oa_14 h_a0 n_8) rfl) (typ (oa_14 h_a0 n_8) rfl) h d_Mo_differ_67 (fun x_27 h => ?_)
            have J_112 : ∀ (y_j112 : Ly) (s_j112 : St) (d_j112 e_j112 : Nat) (x2j112 : Int32) (x4j112 : Int32) (x6j112 : Nat) (x7j112 : Nat) (z0j112 : Int32) (H : Heap) (locs : List Loc), wja_Mo_differ_112 mc ms Post a0 y_j112 s_j112 d_j112 e_j112 x2j112 x4j112 x6j112 x7j112 z0j112 → va_P D CL (ws g ad y_j112 s_j112) H → va_D A (ws g ad y_j112 s_j112) → va_S A s.heap H locs → ∀ ls, lv_has ls 11 [(2, .int x2j112), (4, .int x4j112), (6, .ref (ad x6j112)), (7, .ref (ad x7j112))] → W p l e (ra_Mo_differ mc ms) s m args below meth c H locs d_j112 e_j112 Q (F0 m 112 ls [.int z0j112]) := by
              intro y_j112 s_j112 d_j112 e_j112 x2j112 x4j112 x6j112 x7j112 z0j112 H locs h hP hD hS ls hl
              unfold wja_Mo_differ_112 at h
              obtain ⟨hd, h⟩ := h
              obtain ⟨c_x6j112, h⟩ := h
              obtain ⟨c_x7j112, h⟩ := h
              refine lv_istore (lv' := [(8, .int z0j112), (2, .int x2j112), (4, .int x4j112), (6, .ref (ad x6j112)), (7, .ref (ad x7j112))]) G.1 G.2.1 d_Mo_differ_112 hl (by decide) rfl (fun ls hl => ?_)
              refine lv_iconst (v := 0) G.1 G.2.1 d_Mo_differ_114 (by decide) ?_
              refine lv_istore (lv' := [(9, .int 0), (8, .int z0j112), (2, .int x2j112), (4, .int x4j112), (6, .ref (ad x6j112)), (7, .ref (ad x7j112))]) G.1 G.2.1 d_Mo_differ_115 hl (by decide) rfl (fun ls hl => ?_)
              unfold wla_Mo_differ_117 at h
              obtain ⟨I_117, μ_117, hI_117, hB_117⟩ := h
              have L_117 : ∀ (n_117 : Nat) (y_h117 : Ly) (s_h117 : St) (d_h117 e_h117 : Nat) (x2h117 : Int32) (x4h117 : Int32) (x6h117 : Nat) (x7h117 : Nat) (x8h117 : Int32) (x9h117 : Int32), μ_117 y_h117 s_h117 d_h117 e_h117 x2h117 x4h117 x6h117 x7h117 x8h117 x9h117 < n_117 → I_117 y_h117 s_h117 d_h117 e_h117 x2h117 x4h117 x6h117 x7h117 x8h117 x9h117 → ∀ (H : Heap) (locs : List Loc), va_P D CL (ws g ad y_h117 s_h117) H → va_D A (ws g ad y_h117 s_h117) → va_S A s.heap H locs → ∀ ls, lv_has ls 11 [(2, .int x2h117), (4, .int x4h117), (6, .ref (ad x6h117)), (7, .ref (ad x7h117)), (8, .int x8h117), (9, .int x9h117)] → W p l e (ra_Mo_differ mc ms) s m args below meth c H locs d_h117 e_h117 Q (F0 m 117 ls []) := by
                intro n_117
                induction n_117 with
                | zero => intro y_h117 s_h117 d_h117 e_h117 x2h117 x4h117 x6h117 x7h117 x8h117 x9h117 hμ; exact absurd hμ (Nat.not_lt_zero _)
                | succ n_117 ih_117 =>
                  intro y_h117 s_h117 d_h117 e_h117 x2h117 x4h117 x6h117 x7h117 x8h117 x9h117 hμ_117 hJ H locs hP hD hS ls hl
                  obtain ⟨K_117, hK_117, h⟩ : ∃ K : Ly → St → Nat → Nat → Int32 → Int32 → Nat → Nat → Int32 → Int32 → Prop, (∀ z1 z2 z3 z4 (t0 : Int32) (t1 : Int32) (t2 : Nat) (t3 : Nat) (t4 : Int32) (t5 : Int32), K z1 z2 z3 z4 t0 t1 t2 t3 t4 t5 → I_117 z1 z2 z3 z4 t0 t1 t2 t3 t4 t5 ∧ μ_117 z1 z2 z3 z4 t0 t1 t2 t3 t4 t5 < μ_117 y_h117 s_h117 d_h117 e_h117 x2h117 x4h117 x6h117 x7h117 x8h117 x9h117) ∧ wba_Mo_differ_117 mc ms Post K a0 y_h117 s_h117 d_h117 e_h117 x2h117 x4h117 x6h117 x7h117 x8h117 x9h117 := ⟨_, fun _ _ _ _ _ _ _ _ _ _ h => h, hB_117 y_h117 s_h117 d_h117 e_h117 x2h117 x4h117 x6h117 x7h117 x8h117 x9h117 hJ⟩
                  unfold wba_Mo_differ_117 at h
                  obtain ⟨hd, h⟩ := h
                  obtain ⟨c_x6h117, h⟩ := h
                  obtain ⟨c_x7h117, h⟩ := h
                  refine lv_iload G.1 G.2.1 d_Mo_differ_117 (lv_at hl 5 rfl) ?_
                  refine lv_aload G.1 G.2.1 d_Mo_differ_119 (lv_at hl 2 rfl) ?_
                  refine ugfN (v := .ref (yP y_h117 x6h117 7)) G hP c_x6h117 iMw rfl 7 (by decide) rfl q2718 rfl rfl d_Mo_differ_121 ?_
                  refine lv_iload_n G.1 G.2.1 d_Mo_differ_124 rfl (lv_at hl 0 rfl) ?_
                  refine uiald G hP (kdp c_x6h117 rfl) (typ c_x6h117 rfl) h d_Mo_differ_125 (fun x_28 h => ?_)
                  have J_175 : ∀ (y_j175 : Ly) (s_j175 : St) (d_j175 e_j175 : Nat) (x8j175 : Int32) (H : Heap) (locs : List Loc), wja_Mo_differ_175 mc ms Post a0 y_j175 s_j175 d_j175 e_j175 x8j175 → va_P D CL (ws g ad y_j175 s_j175) H → va_D A (ws g ad y_j175 s_j175) → va_S A s.heap H locs → ∀ ls, lv_has ls 11 [(8, .int x8j175)] → W p l e (ra_Mo_differ mc ms) s m args below meth c H locs d_j175 e_j175 Q (F0 m 175 ls []) := by
                    intro y_j175 s_j175 d_j175 e_j175 x8j175 H locs h hP hD hS ls hl
                    unfold wja_Mo_differ_175 at h
                    obtain ⟨hd, h⟩ := h
                    refine lv_iload G.1 G.2.1 d_Mo_differ_175 (lv_at hl 0 rfl) ?_
                    have J_185 : ∀ (y_j185 : Ly) (s_j185 : St) (d_j185 e_j185 : Nat) (z0j185 : Int32) (H : Heap) (locs : List Loc), wja_Mo_differ_185 mc ms Post a0 y_j185 s_j185 d_j185 e_j185 z0j185 → va_P D CL (ws g ad y_j185 s_j185) H → va_D A (ws g ad y_j185 s_j185) → va_S A s.heap H locs → ∀ ls, lv_has ls 11 [] → W p l e (ra_Mo_differ mc ms) s m args below meth c H locs d_j185 e_j185 Q (F0 m 185 ls [.int z0j185]) := by
                      intro y_j185 s_j185 d_j185 e_j185 z0j185 H locs h hP hD hS ls hl
                      unfold wja_Mo_differ_185 at h
                      obtain ⟨hd, h⟩ := h
                      exact hret _ (y_j185, s_j185, d_j185, e_j185) _ _ _ _ _ ls h hP hD hS (Nat.le_refl _) (Nat.le_refl _) hd.1 hd.2 d_Mo_differ_185
                    refine lv_if_eq (tgt := 184) G.1 G.2.1 d_Mo_differ_177 (by decide) (fun c177 => ?_) (fun c177 => ?_)
                    · skip
                      have h := h.1 c177
                      refine lv_iconst (v := 1) G.1 G.2.1 d_Mo_differ_184 (by decide) ?_
                      exact J_185 y_j175 s_j175 d_j175 e_j175 1 H locs h hP hD hS ls (lv_sub hl [] rfl)
                    · skip
                      have h := h.2 c177
                      refine lv_iconst (v := 0) G.1 G.2.1 d_Mo_differ_180 (by decide) ?_
                      refine lv_goto (tgt := 185) G.1 G.2.1 d_Mo_differ_181 (by decide) ?_
                      exact J_185 y_j175 s_j175 d_j175 e_j175 0 H locs h hP hD hS ls (lv_sub hl [] rfl)
                  refine lv_icmp_ge (tgt := 175) G.1 G.2.1 d_Mo_differ_126 (by decide) (fun c126 => ?_) (fun c126 => ?_)
                  · skip
                    have h := h.1 c126
                    exact J_175 y_h117 s_h117 d_h117 e_h117 x8h117 H locs h hP hD hS ls (lv_sub hl [4] rfl)
                  · skip
                    have h := h.2 c126
                    refine lv_iload G.1 G.2.1 d_Mo_differ_129 (lv_at hl 4 rfl) ?_
                    refine lv_if_eq (tgt := 175) G.1 G.2.1 d_Mo_differ_131 (by decide) (fun c131 => ?_) (fun c131 => ?_)
                    · skip
                      have h := h.1 c131
                      exact J_175 y_h117 s_h117 d_h117 e_h117 x8h117 H locs h hP hD hS ls (lv_sub hl [4] rfl)
                    · skip
                      have h := h.2 c131
                      refine lv_aload G.1 G.2.1 d_Mo_differ_134 (lv_at hl 2 rfl) ?_
                      refine ugfN (v := .ref (yP y_h117 x6h117 6)) G hP c_x6h117 iMw rfl 6 (by decide) rfl q2716 rfl rfl d_Mo_differ_136 ?_
                      refine lv_iconst (v := 4) G.1 G.2.1 d_Mo_differ_139 (by decide) ?_
                      refine W.eq (g2 := F0 m 140 ls [.int 4, .ref (yP y_h117 x6h117 6)]) rfl ?_
                      refine lv_iload_n G.1 G.2.1 d_Mo_differ_140 rfl (lv_at hl 0 rfl) ?_
                      refine lv_imul G.1 G.2.1 d_Mo_differ_141 ?_
                      refine lv_iload G.1 G.2.1 d_Mo_differ_142 (lv_at hl 5 rfl) ?_
                      refine lv_iadd G.1 G.2.1 d_Mo_differ_144 ?_
                      refine uiald G hP (kdp c_x6h117 rfl) (typ c_x6h117 rfl) h d_Mo_differ_145 (fun x_29 h => ?_)
                      refine lv_aload G.1 G.2.1 d_Mo_differ_146 (lv_at hl 3 rfl) ?_
                      refine ugfN (v := .ref (yP y_h117 x7h117 6)) G hP c_x7h117 iMw rfl 6 (by decide) rfl q2716 rfl rfl d_Mo_differ_148 ?_
                      refine lv_iconst (v := 4) G.1 G.2.1 d_Mo_differ_151 (by decide) ?_
                      refine lv_iload G.1 G.2.1 d_Mo_differ_152 (lv_at hl 1 rfl) ?_
                      refine lv_imul G.1 G.2.1 d_Mo_differ_154 ?_
                      refine lv_iload G.1 G.2.1 d_Mo_differ_155 (lv_at hl 5 rfl) ?_
                      refine lv_iadd G.1 G.2.1 d_Mo_differ_157 ?_
                      refine W.eq (g2 := F0 m 158 ls [.int ((4 * x4h117) + x9h117), .ref (yP y_h117 x7h117 6), .int x_29]) rfl ?_
                      refine uiald G hP (kdp c_x7h117 rfl) (typ c_x7h117 rfl) h d_Mo_differ_158 (fun x_30 h => ?_)
                      have J_167 : ∀ (y_j167 : Ly) (s_j167 : St) (d_j167 e_j167 : Nat) (x2j167 : Int32) (x4j167 : Int32) (x6j167 : Nat) (x7j167 : Nat) (x9j167 : Int32) (z0j167 : Int32) (H : Heap) (locs : List Loc), wja_Mo_differ_167 mc ms Post K_117 a0 y_j167 s_j167 d_j167 e_j167 x2j167 x4j167 x6j167 x7j167 x9j167 z0j167 → va_P D CL (ws g ad y_j167 s_j167) H → va_D A (ws g ad y_j167 s_j167) → va_S A s.heap H locs → ∀ ls, lv_has ls 11 [(2, .int x2j167), (4, .int x4j167), (6, .ref (ad x6j167)), (7, .ref (ad x7j167)), (9, .int x9j167)] → W p l e (ra_Mo_differ mc ms) s m args below meth c H locs d_j167 e_j167 Q (F0 m 167 ls [.int z0j167]) := by
                        intro y_j167 s_j167 d_j167 e_j167 x2j167 x4j167 x6j167 x7j167 x9j167 z0j167 H locs h hP hD hS ls hl
                        unfold wja_Mo_differ_167 at h
                        obtain ⟨hd, h⟩ := h
                        obtain ⟨c_x6j167, h⟩ := h
                        obtain ⟨c_x7j167, h⟩ := h
                        refine lv_istore (lv' := [(8, .int z0j167), (2, .int x2j167), (4, .int x4j167), (6, .ref (ad x6j167)), (7, .ref (ad x7j167)), (9, .int x9j167)]) G.1 G.2.1 d_Mo_differ_167 hl (by decide) rfl (fun ls hl => ?_)
                        refine lv_iinc (v := x9j167 + 1) (lv' := [(9, .int (x9j167 + 1)), (8, .int z0j167), (2, .int x2j167), (4, .int x4j167), (6, .ref (ad x6j167)), (7, .ref (ad x7j167))]) G.1 G.2.1 d_Mo_differ_169 hl (k := 5) rfl rfl (by decide) rfl (fun ls hl => ?_)
                        refine lv_goto (tgt := 117) G.1 G.2.1 d_Mo_differ_172 (by decide) ?_
                        have h := hK_117 y_j167 s_j167 d_j167 e_j167 x2j167 x4j167 x6j167 x7j167 z0j167 (x9j167 + 1) h
                        exact ih_117 y_j167 s_j167 d_j167 e_j167 x2j167 x4j167 x6j167 x7j167 z0j167 (x9j167 + 1) (Nat.lt_of_lt_of_le h.2 (Nat.le_of_lt_succ hμ_117)) h.1 H locs hP hD hS ls (lv_sub hl [2, 3, 4, 5, 1, 0] rfl)
                      refine lv_icmp_ne (tgt := 166) G.1 G.2.1 d_Mo_differ_159 (by decide) (fun c159 => ?_) (fun c159 => ?_)
                      · skip
                        have h := h.1 c159
                        refine lv_iconst (v := 0) G.1 G.2.1 d_Mo_differ_166 (by decide) ?_
                        exact J_167 y_h117 s_h117 d_h117 e_h117 x2h117 x4h117 x6h117 x7h117 x9h117 0 H locs h hP hD hS ls (lv_sub hl [0, 1, 2, 3, 5] rfl)
                      · skip
                        have h := h.2 c159
                        refine lv_iconst (v := 1) G.1 G.2.1 d_Mo_differ_162 (by decide) ?_
                        refine lv_goto (tgt := 167) G.1 G.2.1 d_Mo_differ_163 (by decide) ?_
                        exact J_167 y_h117 s_h117 d_h117 e_h117 x2h117 x4h117 x6h117 x7h117 x9h117 1 H locs h hP hD hS ls (lv_sub hl [0, 1, 2, 3, 5] rfl)
              exact L_117 _ y_j112 s_j112 d_j112 e_j112 x2j112 x4j112 x6j112 x7j112 z0j112 0 (Nat.lt_succ_self _) hI_117 H locs hP hD hS ls (lv_sub hl [2, 3, 4, 5, 1, 0] rfl)
            have J_111 : ∀ (y_j111 : Ly) (s_j111 : St) (d_j111 e_j111 : Nat) (x2j111 : Int32) (x4j111 : Int32) (x6j111 : Nat) (x7j111 : Nat) (H : Heap) (locs : List Loc), wja_Mo_differ_111 mc ms Post a0 y_j111 s_j111 d_j111 e_j111 x2j111 x4j111 x6j111 x7j111 → va_P D CL (ws g ad y_j111 s_j111) H → va_D A (ws g ad y_j111 s_j111) → va_S A s.heap H locs → ∀ ls, lv_has ls 11 [(2, .int x2j111), (4, .int x4j111), (6, .ref (ad x6j111)), (7, .ref (ad x7j111))] → W p l e (ra_Mo_differ mc ms) s m args below meth c H locs d_j111 e_j111 Q (F0 m 111 ls []) := by
              intro y_j111 s_j111 d_j111 e_j111 x2j111 x4j111 x6j111 x7j111 H locs h hP hD hS ls hl
              unfold wja_Mo_differ_111 at h
              obtain ⟨hd, h⟩ := h
              obtain ⟨c_x6j111, h⟩ := h
              obtain ⟨c_x7j111, h⟩ := h
              refine lv_iconst (v := 0) G.1 G.2.1 d_Mo_differ_111 (by decide) ?_
              exact J_112 y_j111 s_j111 d_j111 e_j111 x2j111 x4j111 x6j111 x7j111 0 H locs h hP hD hS ls (lv_sub hl [0, 1, 2, 3] rfl)
            refine W.eq (g2 := F0 m 68 ls [.int x_27, .int x_26]) rfl ?_
            refine lv_icmp_ne (tgt := 111) G.1 G.2.1 d_Mo_differ_68 (by decide) (fun c68 => ?_) (fun c68 => ?_)
            · skip
              have h := h.1 c68
              exact J_111 y s_4 0 0 v2 v4 b_5 b_7 H locs h hP hD hS ls (lv_sub hl [4, 6, 1, 0] rfl)
            · skip
              have h := h.2 c68
              refine lv_aload G.1 G.2.1 d_Mo_differ_71 (lv_at hl 1 rfl) ?_
              refine ugfN (v := .ref (yP y b_5 4)) G hP (oa_14 h_a0 n_6) iMw rfl 4 (by decide) rfl q2712 rfl rfl d_Mo_differ_73 ?_
              refine lv_iload_n G.1 G.2.1 d_Mo_differ_76 rfl (lv_at hl 4 rfl) ?_
              refine uiald G hP (kdp (oa_14 h_a0 n_6) rfl) (typ (oa_14 h_a0 n_6) rfl) h d_Mo_differ_77 (fun x_31 h => ?_)
              refine lv_aload G.1 G.2.1 d_Mo_differ_78 (lv_at hl 0 rfl) ?_
              refine ugfN (v := .ref (yP y b_7 4)) G hP (oa_14 h_a0 n_8) iMw rfl 4 (by decide) rfl q2712 rfl rfl d_Mo_differ_80 ?_
              refine lv_iload G.1 G.2.1 d_Mo_differ_83 (lv_at hl 6 rfl) ?_
              refine uiald G hP (kdp (oa_14 h_a0 n_8) rfl) (typ (oa_14 h_a0 n_8) rfl) h d_Mo_differ_85 (fun x_32 h => ?_)
              refine lv_icmp_ne (tgt := 111) G.1 G.2.1 d_Mo_differ_86 (by decide) (fun c86 => ?_) (fun c86 => ?_)
              · skip
                have h := h.1 c86
                exact J_111 y s_4 0 0 v2 v4 b_5 b_7 H locs h hP hD hS ls (lv_sub hl [4, 6, 1, 0] rfl)
              · skip
                have h := h.2 c86
                refine lv_aload G.1 G.2.1 d_Mo_differ_89 (lv_at hl 1 rfl) ?_
                refine ugfN (v := .ref (yP y b_5 7)) G hP (oa_14 h_a0 n_6) iMw rfl 7 (by decide) rfl q2718 rfl rfl d_Mo_differ_91 ?_
                refine W.eq (g2 := F0 m 94 ls [.ref (yP y b_5 7)]) rfl ?_
                refine lv_iload_n G.1 G.2.1 d_Mo_differ_94 rfl (lv_at hl 4 rfl) ?_
                refine uiald G hP (kdp (oa_14 h_a0 n_6) rfl) (typ (oa_14 h_a0 n_6) rfl) h d_Mo_differ_95 (fun x_33 h => ?_)
                refine lv_aload G.1 G.2.1 d_Mo_differ_96 (lv_at hl 0 rfl) ?_
                refine ugfN (v := .ref (yP y b_7 7)) G hP (oa_14 h_a0 n_8) iMw rfl 7 (by decide) rfl q2718 rfl rfl d_Mo_differ_98 ?_
                refine lv_iload G.1 G.2.1 d_Mo_differ_101 (lv_at hl 6 rfl) ?_
                refine uiald G hP (kdp (oa_14 h_a0 n_8) rfl) (typ (oa_14 h_a0 n_8) rfl) h d_Mo_differ_103 (fun x_34 h => ?_)
                refine lv_icmp_ne (tgt := 111) G.1 G.2.1 d_Mo_differ_104 (by decide) (fun c104 => ?_) (fun c104 => ?_)
                · skip
                  have h := h.1 c104
                  exact J_111 y s_4 0 0 v2 v4 b_5 b_7 H locs h hP hD hS ls (lv_sub hl [4, 6, 1, 0] rfl)
                · skip
                  have h := h.2 c104
                  refine lv_iconst (v := 1) G.1 G.2.1 d_Mo_differ_107 (by decide) ?_
                  refine lv_goto (tgt := 112) G.1 G.2.1 d_Mo_differ_108 (by decide) ?_
                  exact J_112 y s_4 0 0 v2 v4 b_5 b_7 1 H locs h hP hD hS ls (lv_sub hl [4, 6, 1, 0] rfl)
        · skip
          have h := h.2 c27
          exact J_30 y s_4 0 0 H locs h hP hD hS ls (lv_sub hl [] rfl)
