theorem q1415 : Cond.methodLink "ClassWorks$Reader" 205 y_Re_takeTypes ∈ lw_ok := lw_okmem (List.mem_of_getElem? (i := 1415) (by decide +kernel)) rfl
theorem q1418 : Cond.code y_Re_takeTypes b_Re_takeTypes 7 (none) ∈ lw_ok := lw_okmem (List.mem_of_getElem? (i := 1418) (by decide +kernel)) rfl
theorem q1417 : Cond.instanceMethod y_Re_takeTypes ∈ lw_ok := lw_okmem (List.mem_of_getElem? (i := 1417) (by decide +kernel)) rfl
theorem q36 : Cond.selects y_Re_takeTypes.cls y_Re_takeTypes y_Re_takeTypes ∈ lw_ok := lw_okmem (List.mem_of_getElem? (i := 36) (by decide +kernel)) rfl
theorem w9_Re_takeTypes : CWv y_Re_takeTypes b_Re_takeTypes 7 (none) 2 ∧ Cond.instanceMethod y_Re_takeTypes ∈ lw_ok ∧ Cond.selects y_Re_takeTypes.cls y_Re_takeTypes y_Re_takeTypes ∈ lw_ok := ⟨⟨q1418, q340, by decide +kernel, by decide +kernel, by decide +kernel⟩, q1417, q36⟩
theorem q1419 : Cond.methodLink "ClassWorks$Reader" 212 y_Na_sign ∈ lw_ok := lw_okmem (List.mem_of_getElem? (i := 1419) (by decide +kernel)) rfl
theorem q499 : Cond.code y_Na_sign b_Na_sign 8 (some .int) ∈ lw_ok := lw_okmem (List.mem_of_getElem? (i := 499) (by decide +kernel)) rfl
theorem q497 : Cond.instanceMethod y_Na_sign ∈ lw_ok := lw_okmem (List.mem_of_getElem? (i := 497) (by decide +kernel)) rfl
theorem q498 : Cond.selects y_Na_sign.cls y_Na_sign y_Na_sign ∈ lw_ok := lw_okmem (List.mem_of_getElem? (i := 498) (by decide +kernel)) rfl
theorem w9_Na_sign : CWv y_Na_sign b_Na_sign 8 (some .int) 4 ∧ Cond.instanceMethod y_Na_sign ∈ lw_ok ∧ Cond.selects y_Na_sign.cls y_Na_sign y_Na_sign ∈ lw_ok := ⟨⟨q499, q330, by decide +kernel, by decide +kernel, by decide +kernel⟩, q497, q498⟩
def y_Re_operands : MethodName := ⟨"ClassWorks$Reader", "operands", "(CI)V"⟩
abbrev b_Re_operands : ByteArray := prog_8_method_31_code
theorem d_Re_operands_0 : decode b_Re_operands 0 = .ok (.aload_n 0, 1) := by decide +kernel
theorem d_Re_operands_1 : decode b_Re_operands 1 = .ok (.getfield 72, 3) := by decide +kernel
theorem d_Re_operands_4 : decode b_Re_operands 4 = .ok (.getfield 227, 3) := by decide +kernel
theorem d_Re_operands_7 : decode b_Re_operands 7 = .ok (.astore_n 3, 1) := by decide +kernel
theorem d_Re_operands_8 : decode b_Re_operands 8 = .ok (.iload_n 1, 1) := by decide +kernel
theorem d_Re_operands_9 : decode b_Re_operands 9 = .ok (.bipush 107, 2) := by decide +kernel
theorem d_Re_operands_11 : decode b_Re_operands 11 = .ok (.if_icmp .eq 9, 3) := by decide +kernel
theorem d_Re_operands_14 : decode b_Re_operands 14 = .ok (.iload_n 1, 1) := by decide +kernel
theorem d_Re_operands_15 : decode b_Re_operands 15 = .ok (.bipush 105, 2) := by decide +kernel
theorem d_Re_operands_17 : decode b_Re_operands 17 = .ok (.if_icmp .ne 18, 3) := by decide +kernel
theorem d_Re_operands_20 : decode b_Re_operands 20 = .ok (.aload_n 3, 1) := by decide +kernel
theorem d_Re_operands_21 : decode b_Re_operands 21 = .ok (.iload_n 2, 1) := by decide +kernel
theorem d_Re_operands_22 : decode b_Re_operands 22 = .ok (.iconst 1, 1) := by decide +kernel
theorem d_Re_operands_23 : decode b_Re_operands 23 = .ok (.iadd, 1) := by decide +kernel
theorem d_Re_operands_24 : decode b_Re_operands 24 = .ok (.aload_n 0, 1) := by decide +kernel
theorem d_Re_operands_25 : decode b_Re_operands 25 = .ok (.iload_n 1, 1) := by decide +kernel
theorem d_Re_operands_26 : decode b_Re_operands 26 = .ok (.invokevirtual 147, 3) := by decide +kernel
theorem d_Re_operands_29 : decode b_Re_operands 29 = .ok (.invokevirtual 242, 3) := by decide +kernel
theorem d_Re_operands_32 : decode b_Re_operands 32 = .ok (.goto 317, 3) := by decide +kernel
theorem d_Re_operands_35 : decode b_Re_operands 35 = .ok (.iload_n 1, 1) := by decide +kernel
theorem d_Re_operands_36 : decode b_Re_operands 36 = .ok (.bipush 106, 2) := by decide +kernel
theorem d_Re_operands_38 : decode b_Re_operands 38 = .ok (.if_icmp .ne 32, 3) := by decide +kernel
theorem d_Re_operands_41 : decode b_Re_operands 41 = .ok (.aload_n 3, 1) := by decide +kernel
theorem d_Re_operands_42 : decode b_Re_operands 42 = .ok (.iload_n 2, 1) := by decide +kernel
theorem d_Re_operands_43 : decode b_Re_operands 43 = .ok (.iconst 1, 1) := by decide +kernel
theorem d_Re_operands_44 : decode b_Re_operands 44 = .ok (.iadd, 1) := by decide +kernel
theorem d_Re_operands_45 : decode b_Re_operands 45 = .ok (.aload_n 0, 1) := by decide +kernel
theorem d_Re_operands_46 : decode b_Re_operands 46 = .ok (.bipush 105, 2) := by decide +kernel
theorem d_Re_operands_48 : decode b_Re_operands 48 = .ok (.invokevirtual 147, 3) := by decide +kernel
theorem d_Re_operands_51 : decode b_Re_operands 51 = .ok (.invokevirtual 242, 3) := by decide +kernel
theorem d_Re_operands_54 : decode b_Re_operands 54 = .ok (.aload_n 3, 1) := by decide +kernel
theorem d_Re_operands_55 : decode b_Re_operands 55 = .ok (.iload_n 2, 1) := by decide +kernel
theorem d_Re_operands_56 : decode b_Re_operands 56 = .ok (.iconst 2, 1) := by decide +kernel
theorem d_Re_operands_57 : decode b_Re_operands 57 = .ok (.iadd, 1) := by decide +kernel
theorem d_Re_operands_58 : decode b_Re_operands 58 = .ok (.aload_n 0, 1) := by decide +kernel
theorem d_Re_operands_59 : decode b_Re_operands 59 = .ok (.bipush 107, 2) := by decide +kernel
theorem d_Re_operands_61 : decode b_Re_operands 61 = .ok (.invokevirtual 147, 3) := by decide +kernel
theorem d_Re_operands_64 : decode b_Re_operands 64 = .ok (.invokevirtual 242, 3) := by decide +kernel
theorem d_Re_operands_67 : decode b_Re_operands 67 = .ok (.goto 282, 3) := by decide +kernel
theorem d_Re_operands_70 : decode b_Re_operands 70 = .ok (.iload_n 1, 1) := by decide +kernel
theorem d_Re_operands_71 : decode b_Re_operands 71 = .ok (.bipush 76, 2) := by decide +kernel
theorem d_Re_operands_73 : decode b_Re_operands 73 = .ok (.if_icmp .ne 20, 3) := by decide +kernel
theorem d_Re_operands_76 : decode b_Re_operands 76 = .ok (.aload_n 0, 1) := by decide +kernel
theorem d_Re_operands_77 : decode b_Re_operands 77 = .ok (.aload_n 0, 1) := by decide +kernel
theorem d_Re_operands_78 : decode b_Re_operands 78 = .ok (.bipush 110, 2) := by decide +kernel
theorem d_Re_operands_80 : decode b_Re_operands 80 = .ok (.invokevirtual 147, 3) := by decide +kernel
theorem d_Re_operands_83 : decode b_Re_operands 83 = .ok (.iconst 0, 1) := by decide +kernel
theorem d_Re_operands_84 : decode b_Re_operands 84 = .ok (.iload_n 2, 1) := by decide +kernel
theorem d_Re_operands_85 : decode b_Re_operands 85 = .ok (.iconst 1, 1) := by decide +kernel
theorem d_Re_operands_86 : decode b_Re_operands 86 = .ok (.iadd, 1) := by decide +kernel
theorem d_Re_operands_87 : decode b_Re_operands 87 = .ok (.invokevirtual 282, 3) := by decide +kernel
theorem d_Re_operands_90 : decode b_Re_operands 90 = .ok (.goto 259, 3) := by decide +kernel
theorem d_Re_operands_93 : decode b_Re_operands 93 = .ok (.iload_n 1, 1) := by decide +kernel
theorem d_Re_operands_94 : decode b_Re_operands 94 = .ok (.bipush 80, 2) := by decide +kernel
theorem d_Re_operands_96 : decode b_Re_operands 96 = .ok (.if_icmp .ne 126, 3) := by decide +kernel
theorem d_Re_operands_99 : decode b_Re_operands 99 = .ok (.aload_n 3, 1) := by decide +kernel
theorem d_Re_operands_100 : decode b_Re_operands 100 = .ok (.iload_n 2, 1) := by decide +kernel
theorem d_Re_operands_101 : decode b_Re_operands 101 = .ok (.iconst 1, 1) := by decide +kernel
theorem d_Re_operands_102 : decode b_Re_operands 102 = .ok (.iadd, 1) := by decide +kernel
theorem d_Re_operands_103 : decode b_Re_operands 103 = .ok (.aload_n 0, 1) := by decide +kernel
theorem d_Re_operands_104 : decode b_Re_operands 104 = .ok (.bipush 107, 2) := by decide +kernel
theorem d_Re_operands_106 : decode b_Re_operands 106 = .ok (.invokevirtual 147, 3) := by decide +kernel
theorem d_Re_operands_109 : decode b_Re_operands 109 = .ok (.invokevirtual 242, 3) := by decide +kernel
theorem d_Re_operands_112 : decode b_Re_operands 112 = .ok (.aload_n 3, 1) := by decide +kernel
theorem d_Re_operands_113 : decode b_Re_operands 113 = .ok (.iload_n 2, 1) := by decide +kernel
theorem d_Re_operands_114 : decode b_Re_operands 114 = .ok (.iconst 2, 1) := by decide +kernel
theorem d_Re_operands_115 : decode b_Re_operands 115 = .ok (.iadd, 1) := by decide +kernel
theorem d_Re_operands_116 : decode b_Re_operands 116 = .ok (.aload_n 0, 1) := by decide +kernel
theorem d_Re_operands_117 : decode b_Re_operands 117 = .ok (.getfield 72, 3) := by decide +kernel
theorem d_Re_operands_120 : decode b_Re_operands 120 = .ok (.getfield 275, 3) := by decide +kernel
theorem d_Re_operands_123 : decode b_Re_operands 123 = .ok (.getfield 230, 3) := by decide +kernel
theorem d_Re_operands_126 : decode b_Re_operands 126 = .ok (.invokevirtual 242, 3) := by decide +kernel
theorem d_Re_operands_129 : decode b_Re_operands 129 = .ok (.iconst 1, 1) := by decide +kernel
theorem d_Re_operands_130 : decode b_Re_operands 130 = .ok (.istore 4, 2) := by decide +kernel
theorem d_Re_operands_132 : decode b_Re_operands 132 = .ok (.iconst 1, 1) := by decide +kernel
theorem d_Re_operands_133 : decode b_Re_operands 133 = .ok (.istore 5, 2) := by decide +kernel
theorem d_Re_operands_135 : decode b_Re_operands 135 = .ok (.iload 5, 2) := by decide +kernel
theorem d_Re_operands_137 : decode b_Re_operands 137 = .ok (.sipush 6000, 3) := by decide +kernel
theorem d_Re_operands_140 : decode b_Re_operands 140 = .ok (.if_icmp .gt 79, 3) := by decide +kernel
theorem d_Re_operands_143 : decode b_Re_operands 143 = .ok (.iload 4, 2) := by decide +kernel
theorem d_Re_operands_145 : decode b_Re_operands 145 = .ok (.ifCond .eq 74, 3) := by decide +kernel
theorem d_Re_operands_148 : decode b_Re_operands 148 = .ok (.aload_n 0, 1) := by decide +kernel
theorem d_Re_operands_149 : decode b_Re_operands 149 = .ok (.getfield 18, 3) := by decide +kernel
theorem d_Re_operands_152 : decode b_Re_operands 152 = .ok (.ifCond .ne 67, 3) := by decide +kernel
theorem d_Re_operands_155 : decode b_Re_operands 155 = .ok (.aload_n 0, 1) := by decide +kernel
theorem d_Re_operands_156 : decode b_Re_operands 156 = .ok (.aload_n 0, 1) := by decide +kernel
theorem d_Re_operands_157 : decode b_Re_operands 157 = .ok (.bipush 110, 2) := by decide +kernel
theorem d_Re_operands_159 : decode b_Re_operands 159 = .ok (.invokevirtual 147, 3) := by decide +kernel
theorem d_Re_operands_162 : decode b_Re_operands 162 = .ok (.iconst 1, 1) := by decide +kernel
theorem d_Re_operands_163 : decode b_Re_operands 163 = .ok (.aload_n 0, 1) := by decide +kernel
theorem d_Re_operands_164 : decode b_Re_operands 164 = .ok (.getfield 72, 3) := by decide +kernel
theorem d_Re_operands_167 : decode b_Re_operands 167 = .ok (.getfield 275, 3) := by decide +kernel
theorem d_Re_operands_170 : decode b_Re_operands 170 = .ok (.iconst 0, 1) := by decide +kernel
theorem d_Re_operands_171 : decode b_Re_operands 171 = .ok (.invokevirtual 202, 3) := by decide +kernel
theorem d_Re_operands_174 : decode b_Re_operands 174 = .ok (.invokevirtual 282, 3) := by decide +kernel
theorem d_Re_operands_177 : decode b_Re_operands 177 = .ok (.aload_n 3, 1) := by decide +kernel
theorem d_Re_operands_178 : decode b_Re_operands 178 = .ok (.iload_n 2, 1) := by decide +kernel
theorem d_Re_operands_179 : decode b_Re_operands 179 = .ok (.iconst 3, 1) := by decide +kernel
theorem d_Re_operands_180 : decode b_Re_operands 180 = .ok (.iadd, 1) := by decide +kernel
theorem d_Re_operands_181 : decode b_Re_operands 181 = .ok (.iload 5, 2) := by decide +kernel
theorem d_Re_operands_183 : decode b_Re_operands 183 = .ok (.invokevirtual 242, 3) := by decide +kernel
theorem d_Re_operands_186 : decode b_Re_operands 186 = .ok (.aload_n 0, 1) := by decide +kernel
theorem d_Re_operands_187 : decode b_Re_operands 187 = .ok (.bipush 44, 2) := by decide +kernel
theorem d_Re_operands_189 : decode b_Re_operands 189 = .ok (.invokevirtual 151, 3) := by decide +kernel
theorem d_Re_operands_192 : decode b_Re_operands 192 = .ok (.istore 4, 2) := by decide +kernel
theorem d_Re_operands_194 : decode b_Re_operands 194 = .ok (.aload_n 0, 1) := by decide +kernel
theorem d_Re_operands_195 : decode b_Re_operands 195 = .ok (.dup, 1) := by decide +kernel
theorem d_Re_operands_196 : decode b_Re_operands 196 = .ok (.getfield 27, 3) := by decide +kernel
theorem d_Re_operands_199 : decode b_Re_operands 199 = .ok (.iload 4, 2) := by decide +kernel
theorem d_Re_operands_201 : decode b_Re_operands 201 = .ok (.ifCond .eq 7, 3) := by decide +kernel
theorem d_Re_operands_204 : decode b_Re_operands 204 = .ok (.iconst 1, 1) := by decide +kernel
theorem d_Re_operands_205 : decode b_Re_operands 205 = .ok (.goto 4, 3) := by decide +kernel
theorem d_Re_operands_208 : decode b_Re_operands 208 = .ok (.iconst 0, 1) := by decide +kernel
theorem d_Re_operands_209 : decode b_Re_operands 209 = .ok (.iadd, 1) := by decide +kernel
theorem d_Re_operands_210 : decode b_Re_operands 210 = .ok (.putfield 27, 3) := by decide +kernel
theorem d_Re_operands_213 : decode b_Re_operands 213 = .ok (.iinc 5 1, 3) := by decide +kernel
theorem d_Re_operands_216 : decode b_Re_operands 216 = .ok (.goto (-81), 3) := by decide +kernel
theorem d_Re_operands_219 : decode b_Re_operands 219 = .ok (.goto 130, 3) := by decide +kernel
theorem d_Re_operands_222 : decode b_Re_operands 222 = .ok (.iload_n 1, 1) := by decide +kernel
theorem d_Re_operands_223 : decode b_Re_operands 223 = .ok (.bipush 45, 2) := by decide +kernel
theorem d_Re_operands_225 : decode b_Re_operands 225 = .ok (.if_icmp .eq 124, 3) := by decide +kernel
theorem d_Re_operands_228 : decode b_Re_operands 228 = .ok (.aload_n 3, 1) := by decide +kernel
theorem d_Re_operands_229 : decode b_Re_operands 229 = .ok (.iload_n 2, 1) := by decide +kernel
theorem d_Re_operands_230 : decode b_Re_operands 230 = .ok (.iconst 1, 1) := by decide +kernel
theorem d_Re_operands_231 : decode b_Re_operands 231 = .ok (.iadd, 1) := by decide +kernel
theorem d_Re_operands_232 : decode b_Re_operands 232 = .ok (.aload_n 0, 1) := by decide +kernel
theorem d_Re_operands_233 : decode b_Re_operands 233 = .ok (.bipush 99, 2) := by decide +kernel
theorem d_Re_operands_235 : decode b_Re_operands 235 = .ok (.invokevirtual 147, 3) := by decide +kernel
theorem d_Re_operands_238 : decode b_Re_operands 238 = .ok (.invokevirtual 242, 3) := by decide +kernel
theorem d_Re_operands_241 : decode b_Re_operands 241 = .ok (.iload_n 1, 1) := by decide +kernel
theorem d_Re_operands_242 : decode b_Re_operands 242 = .ok (.bipush 67, 2) := by decide +kernel
theorem d_Re_operands_244 : decode b_Re_operands 244 = .ok (.if_icmp .eq 10, 3) := by decide +kernel
theorem d_Re_operands_247 : decode b_Re_operands 247 = .ok (.aload_n 0, 1) := by decide +kernel
theorem d_Re_operands_248 : decode b_Re_operands 248 = .ok (.bipush 46, 2) := by decide +kernel
theorem d_Re_operands_250 : decode b_Re_operands 250 = .ok (.invokevirtual 147, 3) := by decide +kernel
theorem d_Re_operands_253 : decode b_Re_operands 253 = .ok (.pop, 1) := by decide +kernel
theorem d_Re_operands_254 : decode b_Re_operands 254 = .ok (.iload_n 1, 1) := by decide +kernel
theorem d_Re_operands_255 : decode b_Re_operands 255 = .ok (.bipush 70, 2) := by decide +kernel
theorem d_Re_operands_257 : decode b_Re_operands 257 = .ok (.if_icmp .ne 32, 3) := by decide +kernel
theorem d_Re_operands_260 : decode b_Re_operands 260 = .ok (.aload_n 3, 1) := by decide +kernel
theorem d_Re_operands_261 : decode b_Re_operands 261 = .ok (.iload_n 2, 1) := by decide +kernel
theorem d_Re_operands_262 : decode b_Re_operands 262 = .ok (.iconst 2, 1) := by decide +kernel
theorem d_Re_operands_263 : decode b_Re_operands 263 = .ok (.iadd, 1) := by decide +kernel
theorem d_Re_operands_264 : decode b_Re_operands 264 = .ok (.aload_n 0, 1) := by decide +kernel
theorem d_Re_operands_265 : decode b_Re_operands 265 = .ok (.bipush 110, 2) := by decide +kernel
theorem d_Re_operands_267 : decode b_Re_operands 267 = .ok (.invokevirtual 147, 3) := by decide +kernel
theorem d_Re_operands_270 : decode b_Re_operands 270 = .ok (.invokevirtual 242, 3) := by decide +kernel
theorem d_Re_operands_273 : decode b_Re_operands 273 = .ok (.aload_n 3, 1) := by decide +kernel
theorem d_Re_operands_274 : decode b_Re_operands 274 = .ok (.iload_n 2, 1) := by decide +kernel
theorem d_Re_operands_275 : decode b_Re_operands 275 = .ok (.iconst 3, 1) := by decide +kernel
theorem d_Re_operands_276 : decode b_Re_operands 276 = .ok (.iadd, 1) := by decide +kernel
theorem d_Re_operands_277 : decode b_Re_operands 277 = .ok (.aload_n 0, 1) := by decide +kernel
theorem d_Re_operands_278 : decode b_Re_operands 278 = .ok (.bipush 84, 2) := by decide +kernel
theorem d_Re_operands_280 : decode b_Re_operands 280 = .ok (.invokevirtual 147, 3) := by decide +kernel
theorem d_Re_operands_283 : decode b_Re_operands 283 = .ok (.invokevirtual 242, 3) := by decide +kernel
theorem d_Re_operands_286 : decode b_Re_operands 286 = .ok (.goto 63, 3) := by decide +kernel
theorem d_Re_operands_289 : decode b_Re_operands 289 = .ok (.iload_n 1, 1) := by decide +kernel
theorem d_Re_operands_290 : decode b_Re_operands 290 = .ok (.bipush 77, 2) := by decide +kernel
theorem d_Re_operands_292 : decode b_Re_operands 292 = .ok (.if_icmp .ne 57, 3) := by decide +kernel
theorem d_Re_operands_295 : decode b_Re_operands 295 = .ok (.aload_n 0, 1) := by decide +kernel
theorem d_Re_operands_296 : decode b_Re_operands 296 = .ok (.bipush 77, 2) := by decide +kernel
theorem d_Re_operands_298 : decode b_Re_operands 298 = .ok (.invokevirtual 147, 3) := by decide +kernel
theorem d_Re_operands_301 : decode b_Re_operands 301 = .ok (.istore 4, 2) := by decide +kernel
theorem d_Re_operands_303 : decode b_Re_operands 303 = .ok (.aload_n 0, 1) := by decide +kernel
theorem d_Re_operands_304 : decode b_Re_operands 304 = .ok (.bipush 84, 2) := by decide +kernel
theorem d_Re_operands_306 : decode b_Re_operands 306 = .ok (.iconst 1, 1) := by decide +kernel
theorem d_Re_operands_307 : decode b_Re_operands 307 = .ok (.invokevirtual 205, 3) := by decide +kernel
theorem d_Re_operands_310 : decode b_Re_operands 310 = .ok (.aload_n 0, 1) := by decide +kernel
theorem d_Re_operands_311 : decode b_Re_operands 311 = .ok (.bipush 82, 2) := by decide +kernel
theorem d_Re_operands_313 : decode b_Re_operands 313 = .ok (.invokevirtual 147, 3) := by decide +kernel
theorem d_Re_operands_316 : decode b_Re_operands 316 = .ok (.istore 5, 2) := by decide +kernel
theorem d_Re_operands_318 : decode b_Re_operands 318 = .ok (.aload_n 3, 1) := by decide +kernel
theorem d_Re_operands_319 : decode b_Re_operands 319 = .ok (.iload_n 2, 1) := by decide +kernel
theorem d_Re_operands_320 : decode b_Re_operands 320 = .ok (.iconst 2, 1) := by decide +kernel
theorem d_Re_operands_321 : decode b_Re_operands 321 = .ok (.iadd, 1) := by decide +kernel
theorem d_Re_operands_322 : decode b_Re_operands 322 = .ok (.aload_n 0, 1) := by decide +kernel
theorem d_Re_operands_323 : decode b_Re_operands 323 = .ok (.getfield 64, 3) := by decide +kernel
theorem d_Re_operands_326 : decode b_Re_operands 326 = .ok (.iload 4, 2) := by decide +kernel
theorem d_Re_operands_328 : decode b_Re_operands 328 = .ok (.aload_n 0, 1) := by decide +kernel
theorem d_Re_operands_329 : decode b_Re_operands 329 = .ok (.getfield 40, 3) := by decide +kernel
theorem d_Re_operands_332 : decode b_Re_operands 332 = .ok (.bipush 6, 2) := by decide +kernel
theorem d_Re_operands_334 : decode b_Re_operands 334 = .ok (.invokestatic 103, 3) := by decide +kernel
theorem d_Re_operands_337 : decode b_Re_operands 337 = .ok (.aload_n 0, 1) := by decide +kernel
theorem d_Re_operands_338 : decode b_Re_operands 338 = .ok (.getfield 36, 3) := by decide +kernel
theorem d_Re_operands_341 : decode b_Re_operands 341 = .ok (.iload 5, 2) := by decide +kernel
theorem d_Re_operands_343 : decode b_Re_operands 343 = .ok (.invokevirtual 212, 3) := by decide +kernel
theorem d_Re_operands_346 : decode b_Re_operands 346 = .ok (.invokevirtual 242, 3) := by decide +kernel
theorem d_Re_operands_349 : decode b_Re_operands 349 = .ok (.return_, 1) := by decide +kernel
abbrev ra_Re_operands (mc ms : Nat) : Room := { frames := 6, cells := mc, slots := ms, locals := 448 }
def wja_Re_operands_349 (mc ms : Nat) (Post : Ly → St → Nat → Nat → Prop) (a0 : Nat) (y_j349 : Ly) (s_j349 : St) (d_j349 e_j349 : Nat) : Prop := (d_j349 ≤ mc ∧ e_j349 ≤ ms) ∧ Post y_j349 s_j349 d_j349 e_j349
def wja_Re_operands_20 (mc ms : Nat) (Post : Ly → St → Nat → Nat → Prop) (a0 : Nat) (y_j20 : Ly) (s_j20 : St) (d_j20 e_j20 : Nat) (x1j20 : Int32) (x2j20 : Int32) (x3j20 : Nat) : Prop := (d_j20 ≤ mc ∧ e_j20 ≤ ms) ∧ cl x3j20 = 3 ∧ wu_Re_take y_j20 (fun (s_5 : St) (r_4 : Int32) => wu_In_put y_j20 (fun (s_7 : St) => wja_Re_operands_349 mc ms Post a0 y_j20 s_7 d_j20 e_j20) s_5 x3j20 (x2j20 + 1) r_4) s_j20 a0 x1j20
def wja_Re_operands_254 (mc ms : Nat) (Post : Ly → St → Nat → Nat → Prop) (a0 : Nat) (y_j254 : Ly) (s_j254 : St) (d_j254 e_j254 : Nat) (x1j254 : Int32) (x2j254 : Int32) (x3j254 : Nat) : Prop := (d_j254 ≤ mc ∧ e_j254 ≤ ms) ∧ cl x3j254 = 3 ∧ ((¬ x1j254 = 70 → ((¬ x1j254 = 77 → wja_Re_operands_349 mc ms Post a0 y_j254 s_j254 d_j254 e_j254) ∧ (x1j254 = 77 → wu_Re_take y_j254 (fun (s_13 : St) (r_12 : Int32) => wu_Re_takeTypes y_j254 (fun (s_15 : St) => wu_Re_take y_j254 (fun (s_17 : St) (r_16 : Int32) => ∃ mc_23 ms_24 : Nat, (d_j254 + mc_23 ≤ mc ∧ e_j254 + ms_24 ≤ ms) ∧ wa_Na_sign mc_23 ms_24 y_j254 (fun (y_20 : Ly) (s_19 : St) (r_18 : Int32) (d_21 e_22 : Nat) => (d_j254 + d_21 ≤ mc ∧ e_j254 + e_22 ≤ ms) ∧ wu_In_put y_20 (fun (s_27 : St) => wja_Re_operands_349 mc ms Post a0 y_20 s_27 (d_j254 + d_21) (e_j254 + e_22)) s_19 x3j254 (x2j254 + 2) r_18) s_17 (lk a0 2) r_12 (if 6 < (sV s_17 a0 12) then 6 else (sV s_17 a0 12)) a0 11 r_16) s_15 a0 82) s_13 a0 84 1) s_j254 a0 77))) ∧ (x1j254 = 70 → wu_Re_take y_j254 (fun (s_29 : St) (r_28 : Int32) => wu_In_put y_j254 (fun (s_31 : St) => wu_Re_take y_j254 (fun (s_33 : St) (r_32 : Int32) => wu_In_put y_j254 (fun (s_35 : St) => wja_Re_operands_349 mc ms Post a0 y_j254 s_35 d_j254 e_j254) s_33 x3j254 (x2j254 + 3) r_32) s_31 a0 84) s_29 x3j254 (x2j254 + 2) r_28) s_j254 a0 110))
def wja_Re_operands_219 (mc ms : Nat) (Post : Ly → St → Nat → Nat → Prop) (a0 : Nat) (y_j219 : Ly) (s_j219 : St) (d_j219 e_j219 : Nat) : Prop := (d_j219 ≤ mc ∧ e_j219 ≤ ms) ∧ wja_Re_operands_349 mc ms Post a0 y_j219 s_j219 d_j219 e_j219
def wja_Re_operands_209 (mc ms : Nat) (Post : Ly → St → Nat → Nat → Prop) (K_135 : Ly → St → Nat → Nat → Int32 → Nat → Int32 → Int32 → Prop) (a0 : Nat) (y_j209 : Ly) (s_j209 : St) (d_j209 e_j209 : Nat) (x2j209 : Int32) (x3j209 : Nat) (x4j209 : Int32) (x5j209 : Int32) (z1j209 : Int32) (z2j209 : Int32) : Prop := (d_j209 ≤ mc ∧ e_j209 ≤ ms) ∧ cl x3j209 = 3 ∧ xP (uV s_j209 a0 8 (z1j209 + z2j209)) (fun s_72 : St => K_135 y_j209 s_72 d_j209 e_j209 x2j209 x3j209 x4j209 (x5j209 + 1))
def wba_Re_operands_135 (mc ms : Nat) (Post : Ly → St → Nat → Nat → Prop) (K_135 : Ly → St → Nat → Nat → Int32 → Nat → Int32 → Int32 → Prop) (a0 : Nat) (y_h135 : Ly) (s_h135 : St) (d_h135 e_h135 : Nat) (x2h135 : Int32) (x3h135 : Nat) (x4h135 : Int32) (x5h135 : Int32) : Prop := (d_h135 ≤ mc ∧ e_h135 ≤ ms) ∧ cl x3h135 = 3 ∧ ((6000 < x5h135 → wja_Re_operands_219 mc ms Post a0 y_h135 s_h135 d_h135 e_h135) ∧ (¬ (6000 < x5h135) → ((x4h135 = 0 → wja_Re_operands_219 mc ms Post a0 y_h135 s_h135 d_h135 e_h135) ∧ (¬ (x4h135 = 0) → ((¬ (sV s_h135 a0 5) = 0 → wja_Re_operands_219 mc ms Post a0 y_h135 s_h135 d_h135 e_h135) ∧ ((sV s_h135 a0 5) = 0 → wu_Re_take y_h135 (fun (s_48 : St) (r_47 : Int32) => ∃ b_49 : Nat, sO s_48 a0 4 = some b_49 ∧ cl b_49 = 9 ∧ ∃ mc_57 ms_58 : Nat, (d_h135 + mc_57 ≤ mc ∧ e_h135 + ms_58 ≤ ms) ∧ wa_In_add mc_57 ms_58 y_h135 (fun (y_54 : Ly) (s_53 : St) (r_52 : Int32) (d_55 e_56 : Nat) => (d_h135 + d_55 ≤ mc ∧ e_h135 + e_56 ≤ ms) ∧ ∃ mc_65 ms_66 : Nat, (d_h135 + d_55 + mc_65 ≤ mc ∧ e_h135 + e_56 + ms_66 ≤ ms) ∧ wa_Re_addUse mc_65 ms_66 y_54 (fun (y_62 : Ly) (s_61 : St) (d_63 e_64 : Nat) => (d_h135 + d_55 + d_63 ≤ mc ∧ e_h135 + e_56 + e_64 ≤ ms) ∧ wu_In_put y_62 (fun (s_69 : St) => wu_Re_isSign y_62 (fun (s_71 : St) (r_70 : Int32) => ((r_70 = 0 → wja_Re_operands_209 mc ms Post K_135 a0 y_62 s_71 (d_h135 + d_55 + d_63) (e_h135 + e_56 + e_64) x2h135 x3h135 r_70 x5h135 (sV s_71 a0 8) 0) ∧ (¬ (r_70 = 0) → wja_Re_operands_209 mc ms Post K_135 a0 y_62 s_71 (d_h135 + d_55 + d_63) (e_h135 + e_56 + e_64) x2h135 x3h135 r_70 x5h135 (sV s_71 a0 8) 1))) s_69 a0 44) s_61 x3h135 (x2h135 + 3) x5h135) s_53 a0 r_47 1 r_52) s_48 (lk b_49 12) 0) s_h135 a0 110))))))
def wla_Re_operands_135 (mc ms : Nat) (Post : Ly → St → Nat → Nat → Prop) (a0 : Nat) (y_h135 : Ly) (s_h135 : St) (d_h135 e_h135 : Nat) (x2h135 : Int32) (x3h135 : Nat) (x4h135 : Int32) (x5h135 : Int32) : Prop := ∃ (I : Ly → St → Nat → Nat → Int32 → Nat → Int32 → Int32 → Prop) (μ : Ly → St → Nat → Nat → Int32 → Nat → Int32 → Int32 → Nat), I y_h135 s_h135 d_h135 e_h135 x2h135 x3h135 x4h135 x5h135 ∧ ∀ (u1 : Ly) (u2 : St) (u3 u4 : Nat) (t0 : Int32) (t1 : Nat) (t2 : Int32) (t3 : Int32), I u1 u2 u3 u4 t0 t1 t2 t3 → wba_Re_operands_135 mc ms Post (fun z1 z2 z3 z4 t0q t1q t2q t3q => I z1 z2 z3 z4 t0q t1q t2q t3q ∧ μ z1 z2 z3 z4 t0q t1q t2q t3q < μ u1 u2 u3 u4 t0 t1 t2 t3) a0 u1 u2 u3 u4 t0 t1 t2 t3
def wa_Re_operands (mc ms : Nat) (y : Ly) (Post : Ly → St → Nat → Nat → Prop) (σ : St) (a0 : Nat) (v1 : Int32) (v2 : Int32) : Prop := ∃ b_1 : Nat, sO σ a0 4 = some b_1 ∧ cl b_1 = 9 ∧ ((v1 = 107 → wja_Re_operands_20 mc ms Post a0 y σ 0 0 v1 v2 (lk b_1 10)) ∧ (¬ (v1 = 107) → ((¬ v1 = 105 → ((¬ v1 = 106 → ((¬ v1 = 76 → ((¬ v1 = 80 → ((v1 = 45 → wja_Re_operands_349 mc ms Post a0 y σ 0 0) ∧ (¬ (v1 = 45) → wu_Re_take y (fun (s_9 : St) (r_8 : Int32) => wu_In_put y (fun (s_11 : St) => ((v1 = 67 → wja_Re_operands_254 mc ms Post a0 y s_11 0 0 v1 v2 (lk b_1 10)) ∧ (¬ (v1 = 67) → wu_Re_take y (fun (s_37 : St) (r_36 : Int32) => wja_Re_operands_254 mc ms Post a0 y s_37 0 0 v1 v2 (lk b_1 10)) s_11 a0 46))) s_9 (lk b_1 10) (v2 + 1) r_8) σ a0 99))) ∧ (v1 = 80 → wu_Re_take y (fun (s_39 : St) (r_38 : Int32) => wu_In_put y (fun (s_41 : St) => ∃ b_42 : Nat, sO s_41 a0 4 = some b_42 ∧ cl b_42 = 9 ∧ wu_In_put y (fun (s_46 : St) => wla_Re_operands_135 mc ms Post a0 y s_46 0 0 v2 (lk b_1 10) 1 1) s_41 (lk b_1 10) (v2 + 2) (sV s_41 (lk b_42 12) 1)) s_39 (lk b_1 10) (v2 + 1) r_38) σ a0 107))) ∧ (v1 = 76 → wu_Re_take y (fun (s_74 : St) (r_73 : Int32) => ∃ mc_80 ms_81 : Nat, (0 + mc_80 ≤ mc ∧ 0 + ms_81 ≤ ms) ∧ wa_Re_addUse mc_80 ms_81 y (fun (y_77 : Ly) (s_76 : St) (d_78 e_79 : Nat) => (0 + d_78 ≤ mc ∧ 0 + e_79 ≤ ms) ∧ wja_Re_operands_349 mc ms Post a0 y_77 s_76 (0 + d_78) (0 + e_79)) s_74 a0 r_73 0 (v2 + 1)) σ a0 110))) ∧ (v1 = 106 → wu_Re_take y (fun (s_84 : St) (r_83 : Int32) => wu_In_put y (fun (s_86 : St) => wu_Re_take y (fun (s_88 : St) (r_87 : Int32) => wu_In_put y (fun (s_90 : St) => wja_Re_operands_349 mc ms Post a0 y s_90 0 0) s_88 (lk b_1 10) (v2 + 2) r_87) s_86 a0 107) s_84 (lk b_1 10) (v2 + 1) r_83) σ a0 105))) ∧ (v1 = 105 → wja_Re_operands_20 mc ms Post a0 y σ 0 0 v1 v2 (lk b_1 10)))))
set_option maxHeartbeats 4000000 in
set_option maxRecDepth 100000 in
theorem ca_Re_operands (l : Launch) (D : va_G) (g : Nat → ClassId) (ad : Nat → Nat) (mc ms : Nat) (y : Ly) (Post : Ly → St → Nat → Nat → Prop) (σ : St) (a0 : Nat) (v1 : Int32) (v2 : Int32) (sz uz : Nat) (h_a0 : cl a0 = 6) (h : wa_Re_operands mc ms y Post σ a0 v1 v2) : Met l y_Re_operands (mw y_Re_operands b_Re_operands 6 (none)) (ra_Re_operands mc ms) (PCu g D [] [.ref (ad a0), .int v1, .int v2] sz uz (ws g ad y σ)) (va_Qv (fun (u : Ly × St × Nat × Nat) => Post u.1 u.2.1 u.2.2.1 u.2.2.2) (QU D (va_A (ws g ad y σ) sz) (fun u => ws g ad u.1 u.2.1) sz uz (fun u => u.2.2.1) (fun u => u.2.2.2)) (va_A (ws g ad y σ) sz)) mc ms (va_A (ws g ad y σ) sz) := by
  refine ofVu (by decide +kernel) (Nat.le_of_ble_eq_true rfl) ?_
  intro p e s m args below meth c A Q ls H locs G hsz hP hD hS hl hret
  subst hsz
  have hl : lv_has ls 6 [(0, .ref (ad a0)), (1, .int v1), (2, .int v2)] := hl
  have hd : 0 ≤ mc ∧ 0 ≤ ms := ⟨Nat.zero_le _, Nat.zero_le _⟩
  unfold wa_Re_operands at h
  refine lv_aload_n G.1 G.2.1 d_Re_operands_0 rfl (lv_at hl 0 rfl) ?_
  obtain ⟨b_1, e_2, c_3, h⟩ := h
  refine ugf (v := .ref (ad b_1)) G hP h_a0 iRe rfl 4 (by decide) rfl q591 rfl (by show va_rf ((sO σ a0 4).map ad) = _; rw [e_2]; rfl) d_Re_operands_1 ?_
  refine ugf (v := .ref (ad (lk b_1 10))) G hP c_3 iWd rfl 10 (by decide) rfl q847 rfl rfl d_Re_operands_4 ?_
  refine lv_astore_n (lv' := [(3, .ref (ad (lk b_1 10))), (0, .ref (ad a0)), (1, .int v1), (2, .int v2)]) G.1 G.2.1 d_Re_operands_7 rfl hl (by decide) rfl (fun ls hl => ?_)
  refine lv_iload_n G.1 G.2.1 d_Re_operands_8 rfl (lv_at hl 2 rfl) ?_
  refine lv_bipush (v := 107) G.1 G.2.1 d_Re_operands_9 (by decide) ?_
  have J_349 : ∀ (y_j349 : Ly) (s_j349 : St) (d_j349 e_j349 : Nat) (H : Heap) (locs : List Loc), wja_Re_operands_349 mc ms Post a0 y_j349 s_j349 d_j349 e_j349 → va_P D CL (ws g ad y_j349 s_j349) H → va_D A (ws g ad y_j349 s_j349) → va_S A s.heap H locs → ∀ ls, lv_has ls 6 [] → W p l e (ra_Re_operands mc ms) s m args below meth c H locs d_j349 e_j349 Q (F0 m 349 ls []) := by
    intro y_j349 s_j349 d_j349 e_j349 H locs h hP hD hS ls hl
    unfold wja_Re_operands_349 at h
    obtain ⟨hd, h⟩ := h
    exact hret (y_j349, s_j349, d_j349, e_j349) _ _ _ _ _ ls h hP hD hS (Nat.le_refl _) (Nat.le_refl _) hd.1 hd.2 d_Re_operands_349
  have J_20 : ∀ (y_j20 : Ly) (s_j20 : St) (d_j20 e_j20 : Nat) (x1j20 : Int32) (x2j20 : Int32) (x3j20 : Nat) (H : Heap) (locs : List Loc), wja_Re_operands_20 mc ms Post a0 y_j20 s_j20 d_j20 e_j20 x1j20 x2j20 x3j20 → va_P D CL (ws g ad y_j20 s_j20) H → va_D A (ws g ad y_j20 s_j20) → va_S A s.heap H locs → ∀ ls, lv_has ls 6 [(0, .ref (ad a0)), (1, .int x1j20), (2, .int x2j20), (3, .ref (ad x3j20))] → W p l e (ra_Re_operands mc ms) s m args below meth c H locs d_j20 e_j20 Q (F0 m 20 ls []) := by
    intro y_j20 s_j20 d_j20 e_j20 x1j20 x2j20 x3j20 H locs h hP hD hS ls hl
    unfold wja_Re_operands_20 at h
    obtain ⟨hd, h⟩ := h
    obtain ⟨c_x3j20, h⟩ := h
    refine lv_aload_n G.1 G.2.1 d_Re_operands_20 rfl (lv_at hl 3 rfl) ?_
    refine lv_iload_n G.1 G.2.1 d_Re_operands_21 rfl (lv_at hl 2 rfl) ?_
    refine lv_iconst (v := 1) G.1 G.2.1 d_Re_operands_22 (by decide) ?_
    refine lv_iadd G.1 G.2.1 d_Re_operands_23 ?_
    refine lv_aload_n G.1 G.2.1 d_Re_operands_24 rfl (lv_at hl 0 rfl) ?_
    refine lv_iload_n G.1 G.2.1 d_Re_operands_25 rfl (lv_at hl 1 rfl) ?_
    refine ucVi (As := [.int x1j20]) (rest := [.int (x2j20 + 1), .ref (ad x3j20)]) G hP hD hS (cu_Re_take l D g ad y_j20 _ s_j20 a0 x1j20 H.size h_a0 h) w9_Re_take q1321 ⟨Nat.le_of_ble_eq_true rfl, Nat.le_of_ble_eq_true rfl⟩ rfl rfl h_a0 (q := (RRe, TRe, 18)) rfl rfl hl.1 rfl (Nat.le_of_ble_eq_true rfl) rfl hd d_Re_operands_26 (fun r_4 s_5 H locs h hP hD hS => ?_)
    refine ucVv (As := [.int (x2j20 + 1), .int r_4]) (rest := []) G hP hD hS (cu_In_put l D g ad y_j20 _ s_5 x3j20 (x2j20 + 1) r_4 H.size c_x3j20 h) w9_In_put q1359 ⟨Nat.le_of_ble_eq_true rfl, Nat.le_of_ble_eq_true rfl⟩ rfl rfl c_x3j20 (q := (RIn, TIn, 2)) rfl rfl hl.1 rfl (Nat.le_of_ble_eq_true rfl) rfl hd d_Re_operands_29 (fun s_7 H locs h hP hD hS => ?_)
    refine lv_goto (tgt := 349) G.1 G.2.1 d_Re_operands_32 (by decide) ?_
    exact J_349 y_j20 s_7 d_j20 e_j20 H locs h hP hD hS ls (lv_sub hl [] rfl)
  refine lv_icmp_eq (tgt := 20) G.1 G.2.1 d_Re_operands_11 (by decide) (fun c11 => ?_) (fun c11 => ?_)
  · skip
    have h := h.1 c11
    exact J_20 y σ 0 0 v1 v2 (lk b_1 10) H locs h hP hD hS ls (lv_sub hl [1, 2, 3, 0] rfl)
  · skip
    have h := h.2 c11
    refine lv_iload_n G.1 G.2.1 d_Re_operands_14 rfl (lv_at hl 2 rfl) ?_
    refine lv_bipush (v := 105) G.1 G.2.1 d_Re_operands_15 (by decide) ?_
    refine lv_icmp_ne (tgt := 35) G.1 G.2.1 d_Re_operands_17 (by decide) (fun c17 => ?_) (fun c17 => ?_)
    · skip
      have h := h.1 c17
      refine lv_iload_n G.1 G.2.1 d_Re_operands_35 rfl (lv_at hl 2 rfl) ?_
      refine W.eq (g2 := F0 m 36 ls [.int v1]) rfl ?_
      refine lv_bipush (v := 106) G.1 G.2.1 d_Re_operands_36 (by decide) ?_
      refine lv_icmp_ne (tgt := 70) G.1 G.2.1 d_Re_operands_38 (by decide) (fun c38 => ?_) (fun c38 => ?_)
      · skip
        have h := h.1 c38
        refine lv_iload_n G.1 G.2.1 d_Re_operands_70 rfl (lv_at hl 2 rfl) ?_
        refine lv_bipush (v := 76) G.1 G.2.1 d_Re_operands_71 (by decide) ?_
        refine lv_icmp_ne (tgt := 93) G.1 G.2.1 d_Re_operands_73 (by decide) (fun c73 => ?_) (fun c73 => ?_)
        · skip
          have h := h.1 c73
          refine lv_iload_n G.1 G.2.1 d_Re_operands_93 rfl (lv_at hl 2 rfl) ?_
          refine lv_bipush (v := 80) G.1 G.2.1 d_Re_operands_94 (by decide) ?_
          refine lv_icmp_ne (tgt := 222) G.1 G.2.1 d_Re_operands_96 (by decide) (fun c96 => ?_) (fun c96 => ?_)
          · skip
            have h := h.1 c96
            refine lv_iload_n G.1 G.2.1 d_Re_operands_222 rfl (lv_at hl 2 rfl) ?_
            refine lv_bipush (v := 45) G.1 G.2.1 d_Re_operands_223 (by decide) ?_
            refine lv_icmp_eq (tgt := 349) G.1 G.2.1 d_Re_operands_225 (by decide) (fun c225 => ?_) (fun c225 => ?_)
            · skip
              have h := h.1 c225
              exact J_349 y σ 0 0 H locs h hP hD hS ls (lv_sub hl [] rfl)
            · skip
              have h := h.2 c225
              refine lv_aload_n G.1 G.2.1 d_Re_operands_228 rfl (lv_at hl 0 rfl) ?_
              refine W.eq (g2 := F0 m 229 ls [.ref (ad (lk b_1 10))]) rfl ?_
              refine lv_iload_n G.1 G.2.1 d_Re_operands_229 rfl (lv_at hl 3 rfl) ?_
              refine lv_iconst (v := 1) G.1 G.2.1 d_Re_operands_230 (by decide) ?_
              refine lv_iadd G.1 G.2.1 d_Re_operands_231 ?_
              refine lv_aload_n G.1 G.2.1 d_Re_operands_232 rfl (lv_at hl 1 rfl) ?_
              refine lv_bipush (v := 99) G.1 G.2.1 d_Re_operands_233 (by decide) ?_
              refine ucVi (As := [.int 99]) (rest := [.int (v2 + 1), .ref (ad (lk b_1 10))]) G hP hD hS (cu_Re_take l D g ad y _ σ a0 99 H.size h_a0 h) w9_Re_take q1321 ⟨Nat.le_of_ble_eq_true rfl, Nat.le_of_ble_eq_true rfl⟩ rfl rfl h_a0 (q := (RRe, TRe, 18)) rfl rfl hl.1 rfl (Nat.le_of_ble_eq_true rfl) rfl hd d_Re_operands_235 (fun r_8 s_9 H locs h hP hD hS => ?_)
              refine ucVv (As := [.int (v2 + 1), .int r_8]) (rest := []) G hP hD hS (cu_In_put l D g ad y _ s_9 (lk b_1 10) (v2 + 1) r_8 H.size (lk_9_10 c_3) h) w9_In_put q1359 ⟨Nat.le_of_ble_eq_true rfl, Nat.le_of_ble_eq_true rfl⟩ rfl rfl (lk_9_10 c_3) (q := (RIn, TIn, 2)) rfl rfl hl.1 rfl (Nat.le_of_ble_eq_true rfl) rfl hd d_Re_operands_238 (fun s_11 H locs h hP hD hS => ?_)
              refine lv_iload_n G.1 G.2.1 d_Re_operands_241 rfl (lv_at hl 2 rfl) ?_
              refine lv_bipush (v := 67) G.1 G.2.1 d_Re_operands_242 (by decide) ?_
              have J_254 : ∀ (y_j254 : Ly) (s_j254 : St) (d_j254 e_j254 : Nat) (x1j254 : Int32) (x2j254 : Int32) (x3j254 : Nat) (H : Heap) (locs : List Loc), wja_Re_operands_254 mc ms Post a0 y_j254 s_j254 d_j254 e_j254 x1j254 x2j254 x3j254 → va_P D CL (ws g ad y_j254 s_j254) H → va_D A (ws g ad y_j254 s_j254) → va_S A s.heap H locs → ∀ ls, lv_has ls 6 [(0, .ref (ad a0)), (1, .int x1j254), (2, .int x2j254), (3, .ref (ad x3j254))] → W p l e (ra_Re_operands mc ms) s m args below meth c H locs d_j254 e_j254 Q (F0 m 254 ls []) := by
                intro y_j254 s_j254 d_j254 e_j254 x1j254 x2j254 x3j254 H locs h hP hD hS ls hl
                unfold wja_Re_operands_254 at h
                obtain ⟨hd, h⟩ := h
                obtain ⟨c_x3j254, h⟩ := h
                refine lv_iload_n G.1 G.2.1 d_Re_operands_254 rfl (lv_at hl 1 rfl) ?_
                refine lv_bipush (v := 70) G.1 G.2.1 d_Re_operands_255 (by decide) ?_
                refine lv_icmp_ne (tgt := 289) G.1 G.2.1 d_Re_operands_257 (by decide) (fun c257 => ?_) (fun c257 => ?_)
                · skip
                  have h := h.1 c257
                  refine lv_iload_n G.1 G.2.1 d_Re_operands_289 rfl (lv_at hl 1 rfl) ?_
                  refine lv_bipush (v := 77) G.1 G.2.1 d_Re_operands_290 (by decide) ?_
                  refine lv_icmp_ne (tgt := 349) G.1 G.2.1 d_Re_operands_292 (by decide) (fun c292 => ?_) (fun c292 => ?_)
                  · skip
                    have h := h.1 c292
                    exact J_349 y_j254 s_j254 d_j254 e_j254 H locs h hP hD hS ls (lv_sub hl [] rfl)
                  · skip
                    have h := h.2 c292
                    refine lv_aload_n G.1 G.2.1 d_Re_operands_295 rfl (lv_at hl 0 rfl) ?_
                    refine lv_bipush (v := 77) G.1 G.2.1 d_Re_operands_296 (by decide) ?_
                    refine ucVi (As := [.int 77]) (rest := []) G hP hD hS (cu_Re_take l D g ad y_j254 _ s_j254 a0 77 H.size h_a0 h) w9_Re_take q1321 ⟨Nat.le_of_ble_eq_true rfl, Nat.le_of_ble_eq_true rfl⟩ rfl rfl h_a0 (q := (RRe, TRe, 18)) rfl rfl hl.1 rfl (Nat.le_of_ble_eq_true rfl) rfl hd d_Re_operands_298 (fun r_12 s_13 H locs h hP hD hS => ?_)
                    refine lv_istore (lv' := [(4, .int r_12), (0, .ref (ad a0)), (1, .int x1j254), (2, .int x2j254), (3, .ref (ad x3j254))]) G.1 G.2.1 d_Re_operands_301 hl (by decide) rfl (fun ls hl => ?_)
                    refine lv_aload_n G.1 G.2.1 d_Re_operands_303 rfl (lv_at hl 1 rfl) ?_
                    refine W.eq (g2 := F0 m 304 ls [.ref (ad a0)]) rfl ?_
                    refine lv_bipush (v := 84) G.1 G.2.1 d_Re_operands_304 (by decide) ?_
                    refine lv_iconst (v := 1) G.1 G.2.1 d_Re_operands_306 (by decide) ?_
                    refine ucVv (As := [.int 84, .int 1]) (rest := []) G hP hD hS (cu_Re_takeTypes l D g ad y_j254 _ s_13 a0 84 1 H.size h_a0 h) w9_Re_takeTypes q1415 ⟨Nat.le_of_ble_eq_true rfl, Nat.le_of_ble_eq_true rfl⟩ rfl rfl h_a0 (q := (RRe, TRe, 18)) rfl rfl hl.1 rfl (Nat.le_of_ble_eq_true rfl) rfl hd d_Re_operands_307 (fun s_15 H locs h hP hD hS => ?_)
                    refine lv_aload_n G.1 G.2.1 d_Re_operands_310 rfl (lv_at hl 1 rfl) ?_
                    refine lv_bipush (v := 82) G.1 G.2.1 d_Re_operands_311 (by decide) ?_
                    refine ucVi (As := [.int 82]) (rest := []) G hP hD hS (cu_Re_take l D g ad y_j254 _ s_15 a0 82 H.size h_a0 h) w9_Re_take q1321 ⟨Nat.le_of_ble_eq_true rfl, Nat.le_of_ble_eq_true rfl⟩ rfl rfl h_a0 (q := (RRe, TRe, 18)) rfl rfl hl.1 rfl (Nat.le_of_ble_eq_true rfl) rfl hd d_Re_operands_313 (fun r_16 s_17 H locs h hP hD hS => ?_)
                    refine lv_istore (lv' := [(5, .int r_16), (4, .int r_12), (0, .ref (ad a0)), (1, .int x1j254), (2, .int x2j254), (3, .ref (ad x3j254))]) G.1 G.2.1 d_Re_operands_316 hl (by decide) rfl (fun ls hl => ?_)
                    refine lv_aload_n G.1 G.2.1 d_Re_operands_318 rfl (lv_at hl 5 rfl) ?_
                    refine lv_iload_n G.1 G.2.1 d_Re_operands_319 rfl (lv_at hl 4 rfl) ?_
                    refine lv_iconst (v := 2) G.1 G.2.1 d_Re_operands_320 (by decide) ?_
                    refine lv_iadd G.1 G.2.1 d_Re_operands_321 ?_
                    refine lv_aload_n G.1 G.2.1 d_Re_operands_322 rfl (lv_at hl 2 rfl) ?_
                    refine W.eq (g2 := F0 m 323 ls [.ref (ad a0), .int (x2j254 + 2), .ref (ad x3j254)]) rfl ?_
                    refine ugf (v := .ref (ad (lk a0 2))) G hP h_a0 iRe rfl 2 (by decide) rfl q589 rfl rfl d_Re_operands_323 ?_
                    refine lv_iload G.1 G.2.1 d_Re_operands_326 (lv_at hl 1 rfl) ?_
                    refine lv_aload_n G.1 G.2.1 d_Re_operands_328 rfl (lv_at hl 2 rfl) ?_
                    refine ugf (v := .int (sV s_17 a0 12)) G hP h_a0 iRe rfl 12 (by decide) rfl q599 rfl rfl d_Re_operands_329 ?_
                    refine lv_bipush (v := 6) G.1 G.2.1 d_Re_operands_332 (by decide) ?_
                    refine va_mmin G.1 G.2.1 (G.2.2.1.trans hl.1.symm) G.2.2.2.2.2.2.1 (G.2.2.2.2.2.1 _ q1341) (G.2.2.2.2.2.1 _ q484) (G.2.2.2.2.2.1 _ q337) (G.2.2.2.2.2.1 _ q485) (Nat.le_of_ble_eq_true rfl) (Nat.le_of_ble_eq_true rfl) hd.1 hd.2 d_Re_operands_334 ?_
                    refine lv_aload_n G.1 G.2.1 d_Re_operands_337 rfl (lv_at hl 2 rfl) ?_
                    refine ugf (v := .ref (yP y_j254 a0 11)) G hP h_a0 iRe rfl 11 (by decide) rfl q598 rfl rfl d_Re_operands_338 ?_
                    refine lv_iload G.1 G.2.1 d_Re_operands_341 (lv_at hl 0 rfl) ?_
                    obtain ⟨mc_23, ms_24, hr_25, h⟩ := h
                    refine uaVi (As := [.int r_12, .int (if 6 < (sV s_17 a0 12) then 6 else (sV s_17 a0 12)), .ref (yP y_j254 a0 11), .int r_16]) (rest := [.int (x2j254 + 2), .ref (ad x3j254)]) G hP hD hS (ca_Na_sign l D g ad mc_23 ms_24 y_j254 _ s_17 (lk a0 2) r_12 (if 6 < (sV s_17 a0 12) then 6 else (sV s_17 a0 12)) a0 11 r_16 H.size (us H) (lk_6_2 h_a0) ⟨(kdp h_a0 rfl), (typ h_a0 rfl)⟩ h) w9_Na_sign q1419 ⟨Nat.le_of_ble_eq_true rfl, Nat.le_of_ble_eq_true rfl⟩ rfl rfl (lk_6_2 h_a0) (q := (RNa, TNa, 11)) rfl rfl hl.1 rfl (Nat.le_of_ble_eq_true rfl) rfl hr_25 d_Re_operands_343 (fun r_18 y_20 s_19 d_21 e_22 H locs h hP hD hS => ?_)
                    have hl := lv_sub (l' := []) hl [] rfl
                    obtain ⟨hd, h⟩ := h
                    refine ucVv (As := [.int (x2j254 + 2), .int r_18]) (rest := []) G hP hD hS (cu_In_put l D g ad y_20 _ s_19 x3j254 (x2j254 + 2) r_18 H.size c_x3j254 h) w9_In_put q1359 ⟨Nat.le_of_ble_eq_true rfl, Nat.le_of_ble_eq_true rfl⟩ rfl rfl c_x3j254 (q := (RIn, TIn, 2)) rfl rfl hl.1 rfl (Nat.le_of_ble_eq_true rfl) rfl hd d_Re_operands_346 (fun s_27 H locs h hP hD hS => ?_)
                    exact J_349 y_20 s_27 (d_j254 + d_21) (e_j254 + e_22) H locs h hP hD hS ls (lv_sub hl [] rfl)
                · skip
                  have h := h.2 c257
                  refine lv_aload_n G.1 G.2.1 d_Re_operands_260 rfl (lv_at hl 3 rfl) ?_
                  refine lv_iload_n G.1 G.2.1 d_Re_operands_261 rfl (lv_at hl 2 rfl) ?_
                  refine lv_iconst (v := 2) G.1 G.2.1 d_Re_operands_262 (by decide) ?_
                  refine lv_iadd G.1 G.2.1 d_Re_operands_263 ?_
                  refine lv_aload_n G.1 G.2.1 d_Re_operands_264 rfl (lv_at hl 0 rfl) ?_
                  refine lv_bipush (v := 110) G.1 G.2.1 d_Re_operands_265 (by decide) ?_
                  refine ucVi (As := [.int 110]) (rest := [.int (x2j254 + 2), .ref (ad x3j254)]) G hP hD hS (cu_Re_take l D g ad y_j254 _ s_j254 a0 110 H.size h_a0 h) w9_Re_take q1321 ⟨Nat.le_of_ble_eq_true rfl, Nat.le_of_ble_eq_true rfl⟩ rfl rfl h_a0 (q := (RRe, TRe, 18)) rfl rfl hl.1 rfl (Nat.le_of_ble_eq_true rfl) rfl hd d_Re_operands_267 (fun r_28 s_29 H locs h hP hD hS => ?_)
                  refine ucVv (As := [.int (x2j254 + 2), .int r_28]) (rest := []) G hP hD hS (cu_In_put l D g ad y_j254 _ s_29 x3j254 (x2j254 + 2) r_28 H.size c_x3j254 h) w9_In_put q1359 ⟨Nat.le_of_ble_eq_true rfl, Nat.le_of_ble_eq_true rfl⟩ rfl rfl c_x3j254 (q := (RIn, TIn, 2)) rfl rfl hl.1 rfl (Nat.le_of_ble_eq_true rfl) rfl hd d_Re_operands_270 (fun s_31 H locs h hP hD hS => ?_)
                  refine W.eq (g2 := F0 m 273 ls []) rfl ?_
                  refine lv_aload_n G.1 G.2.1 d_Re_operands_273 rfl (lv_at hl 3 rfl) ?_
                  refine lv_iload_n G.1 G.2.1 d_Re_operands_274 rfl (lv_at hl 2 rfl) ?_
                  refine lv_iconst (v := 3) G.1 G.2.1 d_Re_operands_275 (by decide) ?_
                  refine lv_iadd G.1 G.2.1 d_Re_operands_276 ?_
                  refine lv_aload_n G.1 G.2.1 d_Re_operands_277 rfl (lv_at hl 0 rfl) ?_
                  refine lv_bipush (v := 84) G.1 G.2.1 d_Re_operands_278 (by decide) ?_
                  refine ucVi (As := [.int 84]) (rest := [.int (x2j254 + 3), .ref (ad x3j254)]) G hP hD hS (cu_Re_take l D g ad y_j254 _ s_31 a0 84 H.size h_a0 h) w9_Re_take q1321 ⟨Nat.le_of_ble_eq_true rfl, Nat.le_of_ble_eq_true rfl⟩ rfl rfl h_a0 (q := (RRe, TRe, 18)) rfl rfl hl.1 rfl (Nat.le_of_ble_eq_true rfl) rfl hd d_Re_operands_280 (fun r_32 s_33 H locs h hP hD hS => ?_)
                  refine ucVv (As := [.int (x2j254 + 3), .int r_32]) (rest := []) G hP hD hS (cu_In_put l D g ad y_j254 _ s_33 x3j254 (x2j254 + 3) r_32 H.size c_x3j254 h) w9_In_put q1359 ⟨Nat.le_of_ble_eq_true rfl, Nat.le_of_ble_eq_true rfl⟩ rfl rfl c_x3j254 (q := (RIn, TIn, 2)) rfl rfl hl.1 rfl (Nat.le_of_ble_eq_true rfl) rfl hd d_Re_operands_283 (fun s_35 H locs h hP hD hS => ?_)
                  refine lv_goto (tgt := 349) G.1 G.2.1 d_Re_operands_286 (by decide) ?_
                  exact J_349 y_j254 s_35 d_j254 e_j254 H locs h hP hD hS ls (lv_sub hl [] rfl)
              refine lv_icmp_eq (tgt := 254) G.1 G.2.1 d_Re_operands_244 (by decide) (fun c244 => ?_) (fun c244 => ?_)
              · skip
                have h := h.1 c244
                exact J_254 y s_11 0 0 v1 v2 (lk b_1 10) H locs h hP hD hS ls (lv_sub hl [1, 2, 3, 0] rfl)
              · skip
                have h := h.2 c244
                refine lv_aload_n G.1 G.2.1 d_Re_operands_247 rfl (lv_at hl 1 rfl) ?_
                refine lv_bipush (v := 46) G.1 G.2.1 d_Re_operands_248 (by decide) ?_
                refine W.eq (g2 := F0 m 250 ls [.int 46, .ref (ad a0)]) rfl ?_
                refine ucVi (As := [.int 46]) (rest := []) G hP hD hS (cu_Re_take l D g ad y _ s_11 a0 46 H.size h_a0 h) w9_Re_take q1321 ⟨Nat.le_of_ble_eq_true rfl, Nat.le_of_ble_eq_true rfl⟩ rfl rfl h_a0 (q := (RRe, TRe, 18)) rfl rfl hl.1 rfl (Nat.le_of_ble_eq_true rfl) rfl hd d_Re_operands_250 (fun r_36 s_37 H locs h hP hD hS => ?_)
                refine lv_pop G.1 G.2.1 d_Re_operands_253 rfl ?_
                exact J_254 y s_37 0 0 v1 v2 (lk b_1 10) H locs h hP hD hS ls (lv_sub hl [1, 2, 3, 0] rfl)
          · skip
            have h := h.2 c96
            refine lv_aload_n G.1 G.2.1 d_Re_operands_99 rfl (lv_at hl 0 rfl) ?_
            refine lv_iload_n G.1 G.2.1 d_Re_operands_100 rfl (lv_at hl 3 rfl) ?_
            refine lv_iconst (v := 1) G.1 G.2.1 d_Re_operands_101 (by decide) ?_
            refine lv_iadd G.1 G.2.1 d_Re_operands_102 ?_
            refine W.eq (g2 := F0 m 103 ls [.int (v2 + 1), .ref (ad (lk b_1 10))]) rfl ?_
            refine lv_aload_n G.1 G.2.1 d_Re_operands_103 rfl (lv_at hl 1 rfl) ?_
            refine lv_bipush (v := 107) G.1 G.2.1 d_Re_operands_104 (by decide) ?_
            refine ucVi (As := [.int 107]) (rest := [.int (v2 + 1), .ref (ad (lk b_1 10))]) G hP hD hS (cu_Re_take l D g ad y _ σ a0 107 H.size h_a0 h) w9_Re_take q1321 ⟨Nat.le_of_ble_eq_true rfl, Nat.le_of_ble_eq_true rfl⟩ rfl rfl h_a0 (q := (RRe, TRe, 18)) rfl rfl hl.1 rfl (Nat.le_of_ble_eq_true rfl) rfl hd d_Re_operands_106 (fun r_38 s_39 H locs h hP hD hS => ?_)
            refine ucVv (As := [.int (v2 + 1), .int r_38]) (rest := []) G hP hD hS (cu_In_put l D g ad y _ s_39 (lk b_1 10) (v2 + 1) r_38 H.size (lk_9_10 c_3) h) w9_In_put q1359 ⟨Nat.le_of_ble_eq_true rfl, Nat.le_of_ble_eq_true rfl⟩ rfl rfl (lk_9_10 c_3) (q := (RIn, TIn, 2)) rfl rfl hl.1 rfl (Nat.le_of_ble_eq_true rfl) rfl hd d_Re_operands_109 (fun s_41 H locs h hP hD hS => ?_)
            refine lv_aload_n G.1 G.2.1 d_Re_operands_112 rfl (lv_at hl 0 rfl) ?_
            refine lv_iload_n G.1 G.2.1 d_Re_operands_113 rfl (lv_at hl 3 rfl) ?_
            refine lv_iconst (v := 2) G.1 G.2.1 d_Re_operands_114 (by decide) ?_
            refine lv_iadd G.1 G.2.1 d_Re_operands_115 ?_
            refine lv_aload_n G.1 G.2.1 d_Re_operands_116 rfl (lv_at hl 1 rfl) ?_
            obtain ⟨b_42, e_43, c_44, h⟩ := h
            refine ugf (v := .ref (ad b_42)) G hP h_a0 iRe rfl 4 (by decide) rfl q591 rfl (by show va_rf ((sO s_41 a0 4).map ad) = _; rw [e_43]; rfl) d_Re_operands_117 ?_
            refine ugf (v := .ref (ad (lk b_42 12))) G hP c_44 iWd rfl 12 (by decide) rfl q856 rfl rfl d_Re_operands_120 ?_
            refine ugf (v := .int (sV s_41 (lk b_42 12) 1)) G hP (lk_9_12 c_44) iIn rfl 1 (by decide) rfl q396 rfl rfl d_Re_operands_123 ?_
            refine W.eq (g2 := F0 m 126 ls [.int (sV s_41 (lk b_42 12) 1), .int (v2 + 2), .ref (ad (lk b_1 10))]) rfl ?_
            refine ucVv (As := [.int (v2 + 2), .int (sV s_41 (lk b_42 12) 1)]) (rest := []) G hP hD hS (cu_In_put l D g ad y _ s_41 (lk b_1 10) (v2 + 2) (sV s_41 (lk b_42 12) 1) H.size (lk_9_10 c_3) h) w9_In_put q1359 ⟨Nat.le_of_ble_eq_true rfl, Nat.le_of_ble_eq_true rfl⟩ rfl rfl (lk_9_10 c_3) (q := (RIn, TIn, 2)) rfl rfl hl.1 rfl (Nat.le_of_ble_eq_true rfl) rfl hd d_Re_operands_126 (fun s_46 H locs h hP hD hS => ?_)
            refine lv_iconst (v := 1) G.1 G.2.1 d_Re_operands_129 (by decide) ?_
            refine lv_istore (lv' := [(4, .int 1), (3, .ref (ad (lk b_1 10))), (0, .ref (ad a0)), (1, .int v1), (2, .int v2)]) G.1 G.2.1 d_Re_operands_130 hl (by decide) rfl (fun ls hl => ?_)
            refine lv_iconst (v := 1) G.1 G.2.1 d_Re_operands_132 (by decide) ?_
            refine lv_istore (lv' := [(5, .int 1), (4, .int 1), (3, .ref (ad (lk b_1 10))), (0, .ref (ad a0)), (1, .int v1), (2, .int v2)]) G.1 G.2.1 d_Re_operands_133 hl (by decide) rfl (fun ls hl => ?_)
            unfold wla_Re_operands_135 at h
            obtain ⟨I_135, μ_135, hI_135, hB_135⟩ := h
            have L_135 : ∀ (n_135 : Nat) (y_h135 : Ly) (s_h135 : St) (d_h135 e_h135 : Nat) (x2h135 : Int32) (x3h135 : Nat) (x4h135 : Int32) (x5h135 : Int32), μ_135 y_h135 s_h135 d_h135 e_h135 x2h135 x3h135 x4h135 x5h135 < n_135 → I_135 y_h135 s_h135 d_h135 e_h135 x2h135 x3h135 x4h135 x5h135 → ∀ (H : Heap) (locs : List Loc), va_P D CL (ws g ad y_h135 s_h135) H → va_D A (ws g ad y_h135 s_h135) → va_S A s.heap H locs → ∀ ls, lv_has ls 6 [(0, .ref (ad a0)), (2, .int x2h135), (3, .ref (ad x3h135)), (4, .int x4h135), (5, .int x5h135)] → W p l e (ra_Re_operands mc ms) s m args below meth c H locs d_h135 e_h135 Q (F0 m 135 ls []) := by
              intro n_135
              induction n_135 with
              | zero => intro y_h135 s_h135 d_h135 e_h135 x2h135 x3h135 x4h135 x5h135 hμ; exact absurd hμ (Nat.not_lt_zero _)
              | succ n_135 ih_135 =>
                intro y_h135 s_h135 d_h135 e_h135 x2h135 x3h135 x4h135 x5h135 hμ_135 hJ H locs hP hD hS ls hl
                obtain ⟨K_135, hK_135, h⟩ : ∃ K : Ly → St → Nat → Nat → Int32 → Nat → Int32 → Int32 → Prop, (∀ z1 z2 z3 z4 (t0 : Int32) (t1 : Nat) (t2 : Int32) (t3 : Int32), K z1 z2 z3 z4 t0 t1 t2 t3 → I_135 z1 z2 z3 z4 t0 t1 t2 t3 ∧ μ_135 z1 z2 z3 z4 t0 t1 t2 t3 < μ_135 y_h135 s_h135 d_h135 e_h135 x2h135 x3h135 x4h135 x5h135) ∧ wba_Re_operands_135 mc ms Post K a0 y_h135 s_h135 d_h135 e_h135 x2h135 x3h135 x4h135 x5h135 := ⟨_, fun _ _ _ _ _ _ _ _ h => h, hB_135 y_h135 s_h135 d_h135 e_h135 x2h135 x3h135 x4h135 x5h135 hJ⟩
                unfold wba_Re_operands_135 at h
                obtain ⟨hd, h⟩ := h
                obtain ⟨c_x3h135, h⟩ := h
                refine lv_iload G.1 G.2.1 d_Re_operands_135 (lv_at hl 4 rfl) ?_
                refine lv_sipush (v := 6000) G.1 G.2.1 d_Re_operands_137 (by decide) ?_
                have J_219 : ∀ (y_j219 : Ly) (s_j219 : St) (d_j219 e_j219 : Nat) (H : Heap) (locs : List Loc), wja_Re_operands_219 mc ms Post a0 y_j219 s_j219 d_j219 e_j219 → va_P D CL (ws g ad y_j219 s_j219) H → va_D A (ws g ad y_j219 s_j219) → va_S A s.heap H locs → ∀ ls, lv_has ls 6 [] → W p l e (ra_Re_operands mc ms) s m args below meth c H locs d_j219 e_j219 Q (F0 m 219 ls []) := by
                  intro y_j219 s_j219 d_j219 e_j219 H locs h hP hD hS ls hl
                  unfold wja_Re_operands_219 at h
                  obtain ⟨hd, h⟩ := h
                  refine lv_goto (tgt := 349) G.1 G.2.1 d_Re_operands_219 (by decide) ?_
                  exact J_349 y_j219 s_j219 d_j219 e_j219 H locs h hP hD hS ls (lv_sub hl [] rfl)
                refine lv_icmp_gt (tgt := 219) G.1 G.2.1 d_Re_operands_140 (by decide) (fun c140 => ?_) (fun c140 => ?_)
                · skip
                  have h := h.1 c140
                  exact J_219 y_h135 s_h135 d_h135 e_h135 H locs h hP hD hS ls (lv_sub hl [] rfl)
                · skip
                  have h := h.2 c140
                  refine lv_iload G.1 G.2.1 d_Re_operands_143 (lv_at hl 3 rfl) ?_
                  refine lv_if_eq (tgt := 219) G.1 G.2.1 d_Re_operands_145 (by decide) (fun c145 => ?_) (fun c145 => ?_)
                  · skip
                    have h := h.1 c145
                    exact J_219 y_h135 s_h135 d_h135 e_h135 H locs h hP hD hS ls (lv_sub hl [] rfl)
                  · skip
                    have h := h.2 c145
                    refine lv_aload_n G.1 G.2.1 d_Re_operands_148 rfl (lv_at hl 0 rfl) ?_
                    refine ugf (v := .int (sV s_h135 a0 5)) G hP h_a0 iRe rfl 5 (by decide) rfl q592 rfl rfl d_Re_operands_149 ?_
                    refine lv_if_ne (tgt := 219) G.1 G.2.1 d_Re_operands_152 (by decide) (fun c152 => ?_) (fun c152 => ?_)
                    · skip
                      have h := h.1 c152
                      exact J_219 y_h135 s_h135 d_h135 e_h135 H locs h hP hD hS ls (lv_sub hl [] rfl)
                    · skip
                      have h := h.2 c152
                      refine lv_aload_n G.1 G.2.1 d_Re_operands_155 rfl (lv_at hl 0 rfl) ?_
                      refine lv_aload_n G.1 G.2.1 d_Re_operands_156 rfl (lv_at hl 0 rfl) ?_
                      refine lv_bipush (v := 110) G.1 G.2.1 d_Re_operands_157 (by decide) ?_
                      refine W.eq (g2 := F0 m 159 ls [.int 110, .ref (ad a0), .ref (ad a0)]) rfl ?_
                      refine ucVi (As := [.int 110]) (rest := [.ref (ad a0)]) G hP hD hS (cu_Re_take l D g ad y_h135 _ s_h135 a0 110 H.size h_a0 h) w9_Re_take q1321 ⟨Nat.le_of_ble_eq_true rfl, Nat.le_of_ble_eq_true rfl⟩ rfl rfl h_a0 (q := (RRe, TRe, 18)) rfl rfl hl.1 rfl (Nat.le_of_ble_eq_true rfl) rfl hd d_Re_operands_159 (fun r_47 s_48 H locs h hP hD hS => ?_)
                      refine lv_iconst (v := 1) G.1 G.2.1 d_Re_operands_162 (by decide) ?_
                      refine lv_aload_n G.1 G.2.1 d_Re_operands_163 rfl (lv_at hl 0 rfl) ?_
                      obtain ⟨b_49, e_50, c_51, h⟩ := h
                      refine ugf (v := .ref (ad b_49)) G hP h_a0 iRe rfl 4 (by decide) rfl q591 rfl (by show va_rf ((sO s_48 a0 4).map ad) = _; rw [e_50]; rfl) d_Re_operands_164 ?_
                      refine ugf (v := .ref (ad (lk b_49 12))) G hP c_51 iWd rfl 12 (by decide) rfl q856 rfl rfl d_Re_operands_167 ?_
                      refine lv_iconst (v := 0) G.1 G.2.1 d_Re_operands_170 (by decide) ?_
                      obtain ⟨mc_57, ms_58, hr_59, h⟩ := h
                      refine uaVi (As := [.int 0]) (rest := [.int 1, .int r_47, .ref (ad a0)]) G hP hD hS (ca_In_add l D g [] ad mc_57 ms_58 y_h135 _ s_48 (lk b_49 12) 0 H.size (us H) (lk_9_12 c_51) h) w9_In_add q1380 ⟨Nat.le_of_ble_eq_true rfl, Nat.le_of_ble_eq_true rfl⟩ rfl rfl (lk_9_12 c_51) (q := (RIn, TIn, 2)) rfl rfl hl.1 rfl (Nat.le_of_ble_eq_true rfl) rfl hr_59 d_Re_operands_171 (fun r_52 y_54 s_53 d_55 e_56 H locs h hP hD hS => ?_)
                      have hl := lv_sub (l' := [(0, .ref (ad a0)), (2, .int x2h135), (3, .ref (ad x3h135)), (5, .int x5h135)]) hl [0, 1, 2, 4] rfl
                      obtain ⟨hd, h⟩ := h
                      obtain ⟨mc_65, ms_66, hr_67, h⟩ := h
                      refine uaVv (As := [.int r_47, .int 1, .int r_52]) (rest := []) G hP hD hS (ca_Re_addUse l D g ad mc_65 ms_66 y_54 _ s_53 a0 r_47 1 r_52 H.size (us H) h_a0 h) w9_Re_addUse q1397 ⟨Nat.le_of_ble_eq_true rfl, Nat.le_of_ble_eq_true rfl⟩ rfl rfl h_a0 (q := (RRe, TRe, 18)) rfl rfl hl.1 rfl (Nat.le_of_ble_eq_true rfl) rfl hr_67 d_Re_operands_174 (fun y_62 s_61 d_63 e_64 H locs h hP hD hS => ?_)
                      obtain ⟨hd, h⟩ := h
                      refine lv_aload_n G.1 G.2.1 d_Re_operands_177 rfl (lv_at hl 2 rfl) ?_
                      refine lv_iload_n G.1 G.2.1 d_Re_operands_178 rfl (lv_at hl 1 rfl) ?_
                      refine lv_iconst (v := 3) G.1 G.2.1 d_Re_operands_179 (by decide) ?_
                      refine lv_iadd G.1 G.2.1 d_Re_operands_180 ?_
                      refine W.eq (g2 := F0 m 181 ls [.int (x2h135 + 3), .ref (ad x3h135)]) rfl ?_
                      refine lv_iload G.1 G.2.1 d_Re_operands_181 (lv_at hl 3 rfl) ?_
                      refine ucVv (As := [.int (x2h135 + 3), .int x5h135]) (rest := []) G hP hD hS (cu_In_put l D g ad y_62 _ s_61 x3h135 (x2h135 + 3) x5h135 H.size c_x3h135 h) w9_In_put q1359 ⟨Nat.le_of_ble_eq_true rfl, Nat.le_of_ble_eq_true rfl⟩ rfl rfl c_x3h135 (q := (RIn, TIn, 2)) rfl rfl hl.1 rfl (Nat.le_of_ble_eq_true rfl) rfl hd d_Re_operands_183 (fun s_69 H locs h hP hD hS => ?_)
                      refine lv_aload_n G.1 G.2.1 d_Re_operands_186 rfl (lv_at hl 0 rfl) ?_
                      refine lv_bipush (v := 44) G.1 G.2.1 d_Re_operands_187 (by decide) ?_
                      refine ucVi (As := [.int 44]) (rest := []) G hP hD hS (cu_Re_isSign l D g ad y_62 _ s_69 a0 44 H.size h_a0 h) w9_Re_isSign q1325 ⟨Nat.le_of_ble_eq_true rfl, Nat.le_of_ble_eq_true rfl⟩ rfl rfl h_a0 (q := (RRe, TRe, 18)) rfl rfl hl.1 rfl (Nat.le_of_ble_eq_true rfl) rfl hd d_Re_operands_189 (fun r_70 s_71 H locs h hP hD hS => ?_)
                      refine lv_istore (lv' := [(4, .int r_70), (0, .ref (ad a0)), (2, .int x2h135), (3, .ref (ad x3h135)), (5, .int x5h135)]) G.1 G.2.1 d_Re_operands_192 hl (by decide) rfl (fun ls hl => ?_)
                      refine lv_aload_n G.1 G.2.1 d_Re_operands_194 rfl (lv_at hl 1 rfl) ?_
                      refine lv_dup G.1 G.2.1 d_Re_operands_195 rfl ?_
                      refine ugf (v := .int (sV s_71 a0 8)) G hP h_a0 iRe rfl 8 (by decide) rfl q595 rfl rfl d_Re_operands_196 ?_
                      refine lv_iload G.1 G.2.1 d_Re_operands_199 (lv_at hl 0 rfl) ?_
                      have J_209 : ∀ (y_j209 : Ly) (s_j209 : St) (d_j209 e_j209 : Nat) (x2j209 : Int32) (x3j209 : Nat) (x4j209 : Int32) (x5j209 : Int32) (z1j209 : Int32) (z2j209 : Int32) (H : Heap) (locs : List Loc), wja_Re_operands_209 mc ms Post K_135 a0 y_j209 s_j209 d_j209 e_j209 x2j209 x3j209 x4j209 x5j209 z1j209 z2j209 → va_P D CL (ws g ad y_j209 s_j209) H → va_D A (ws g ad y_j209 s_j209) → va_S A s.heap H locs → ∀ ls, lv_has ls 6 [(0, .ref (ad a0)), (2, .int x2j209), (3, .ref (ad x3j209)), (4, .int x4j209), (5, .int x5j209)] → W p l e (ra_Re_operands mc ms) s m args below meth c H locs d_j209 e_j209 Q (F0 m 209 ls [.int z2j209, .int z1j209, .ref (ad a0)]) := by
                        intro y_j209 s_j209 d_j209 e_j209 x2j209 x3j209 x4j209 x5j209 z1j209 z2j209 H locs h hP hD hS ls hl
                        unfold wja_Re_operands_209 at h
                        obtain ⟨hd, h⟩ := h
                        obtain ⟨c_x3j209, h⟩ := h
                        refine lv_iadd G.1 G.2.1 d_Re_operands_209 ?_
                        refine upf G hP hD hS h 8 putV h_a0 iRe tRe tRe_ok nRe rfl (by decide) rfl q595 rfl rfl fV rfl rfl d_Re_operands_210 (fun s_72 H locs h hP hD hS => ?_)
                        refine lv_iinc (v := x5j209 + 1) (lv' := [(5, .int (x5j209 + 1)), (0, .ref (ad a0)), (2, .int x2j209), (3, .ref (ad x3j209)), (4, .int x4j209)]) G.1 G.2.1 d_Re_operands_213 hl (k := 4) rfl rfl (by decide) rfl (fun ls hl => ?_)
                        refine lv_goto (tgt := 135) G.1 G.2.1 d_Re_operands_216 (by decide) ?_
                        have h := hK_135 y_j209 s_72 d_j209 e_j209 x2j209 x3j209 x4j209 (x5j209 + 1) h
                        exact ih_135 y_j209 s_72 d_j209 e_j209 x2j209 x3j209 x4j209 (x5j209 + 1) (Nat.lt_of_lt_of_le h.2 (Nat.le_of_lt_succ hμ_135)) h.1 H locs hP hD hS ls (lv_sub hl [1, 2, 3, 4, 0] rfl)
                      refine lv_if_eq (tgt := 208) G.1 G.2.1 d_Re_operands_201 (by decide) (fun c201 => ?_) (fun c201 => ?_)
                      · skip
                        have h := h.1 c201
                        refine lv_iconst (v := 0) G.1 G.2.1 d_Re_operands_208 (by decide) ?_
                        exact J_209 y_62 s_71 (d_h135 + d_55 + d_63) (e_h135 + e_56 + e_64) x2h135 x3h135 r_70 x5h135 (sV s_71 a0 8) 0 H locs h hP hD hS ls (lv_sub hl [1, 2, 3, 0, 4] rfl)
                      · skip
                        have h := h.2 c201
                        refine lv_iconst (v := 1) G.1 G.2.1 d_Re_operands_204 (by decide) ?_
                        refine W.eq (g2 := F0 m 205 ls [.int 1, .int (sV s_71 a0 8), .ref (ad a0)]) rfl ?_
                        refine lv_goto (tgt := 209) G.1 G.2.1 d_Re_operands_205 (by decide) ?_
                        exact J_209 y_62 s_71 (d_h135 + d_55 + d_63) (e_h135 + e_56 + e_64) x2h135 x3h135 r_70 x5h135 (sV s_71 a0 8) 1 H locs h hP hD hS ls (lv_sub hl [1, 2, 3, 0, 4] rfl)
            exact L_135 _ y s_46 0 0 v2 (lk b_1 10) 1 1 (Nat.lt_succ_self _) hI_135 H locs hP hD hS ls (lv_sub hl [3, 5, 2, 1, 0] rfl)
        · skip
          have h := h.2 c73
          refine lv_aload_n G.1 G.2.1 d_Re_operands_76 rfl (lv_at hl 1 rfl) ?_
          refine lv_aload_n G.1 G.2.1 d_Re_operands_77 rfl (lv_at hl 1 rfl) ?_
          refine lv_bipush (v := 110) G.1 G.2.1 d_Re_operands_78 (by decide) ?_
          refine ucVi (As := [.int 110]) (rest := [.ref (ad a0)]) G hP hD hS (cu_Re_take l D g ad y _ σ a0 110 H.size h_a0 h) w9_Re_take q1321 ⟨Nat.le_of_ble_eq_true rfl, Nat.le_of_ble_eq_true rfl⟩ rfl rfl h_a0 (q := (RRe, TRe, 18)) rfl rfl hl.1 rfl (Nat.le_of_ble_eq_true rfl) rfl hd d_Re_operands_80 (fun r_73 s_74 H locs h hP hD hS => ?_)
          refine lv_iconst (v := 0) G.1 G.2.1 d_Re_operands_83 (by decide) ?_
          refine lv_iload_n G.1 G.2.1 d_Re_operands_84 rfl (lv_at hl 3 rfl) ?_
          refine lv_iconst (v := 1) G.1 G.2.1 d_Re_operands_85 (by decide) ?_
          refine W.eq (g2 := F0 m 86 ls [.int 1, .int v2, .int 0, .int r_73, .ref (ad a0)]) rfl ?_
          refine lv_iadd G.1 G.2.1 d_Re_operands_86 ?_
          obtain ⟨mc_80, ms_81, hr_82, h⟩ := h
          refine uaVv (As := [.int r_73, .int 0, .int (v2 + 1)]) (rest := []) G hP hD hS (ca_Re_addUse l D g ad mc_80 ms_81 y _ s_74 a0 r_73 0 (v2 + 1) H.size (us H) h_a0 h) w9_Re_addUse q1397 ⟨Nat.le_of_ble_eq_true rfl, Nat.le_of_ble_eq_true rfl⟩ rfl rfl h_a0 (q := (RRe, TRe, 18)) rfl rfl hl.1 rfl (Nat.le_of_ble_eq_true rfl) rfl hr_82 d_Re_operands_87 (fun y_77 s_76 d_78 e_79 H locs h hP hD hS => ?_)
          have hl := lv_sub (l' := []) hl [] rfl
          obtain ⟨hd, h⟩ := h
          refine lv_goto (tgt := 349) G.1 G.2.1 d_Re_operands_90 (by decide) ?_
          exact J_349 y_77 s_76 (0 + d_78) (0 + e_79) H locs h hP hD hS ls (lv_sub hl [] rfl)
      · skip
        have h := h.2 c38
        refine lv_aload_n G.1 G.2.1 d_Re_operands_41 rfl (lv_at hl 0 rfl) ?_
        refine lv_iload_n G.1 G.2.1 d_Re_operands_42 rfl (lv_at hl 3 rfl) ?_
        refine lv_iconst (v := 1) G.1 G.2.1 d_Re_operands_43 (by decide) ?_
        refine lv_iadd G.1 G.2.1 d_Re_operands_44 ?_
        refine lv_aload_n G.1 G.2.1 d_Re_operands_45 rfl (lv_at hl 1 rfl) ?_
        refine lv_bipush (v := 105) G.1 G.2.1 d_Re_operands_46 (by decide) ?_
        refine ucVi (As := [.int 105]) (rest := [.int (v2 + 1), .ref (ad (lk b_1 10))]) G hP hD hS (cu_Re_take l D g ad y _ σ a0 105 H.size h_a0 h) w9_Re_take q1321 ⟨Nat.le_of_ble_eq_true rfl, Nat.le_of_ble_eq_true rfl⟩ rfl rfl h_a0 (q := (RRe, TRe, 18)) rfl rfl hl.1 rfl (Nat.le_of_ble_eq_true rfl) rfl hd d_Re_operands_48 (fun r_83 s_84 H locs h hP hD hS => ?_)
        refine ucVv (As := [.int (v2 + 1), .int r_83]) (rest := []) G hP hD hS (cu_In_put l D g ad y _ s_84 (lk b_1 10) (v2 + 1) r_83 H.size (lk_9_10 c_3) h) w9_In_put q1359 ⟨Nat.le_of_ble_eq_true rfl, Nat.le_of_ble_eq_true rfl⟩ rfl rfl (lk_9_10 c_3) (q := (RIn, TIn, 2)) rfl rfl hl.1 rfl (Nat.le_of_ble_eq_true rfl) rfl hd d_Re_operands_51 (fun s_86 H locs h hP hD hS => ?_)
        refine lv_aload_n G.1 G.2.1 d_Re_operands_54 rfl (lv_at hl 0 rfl) ?_
        refine lv_iload_n G.1 G.2.1 d_Re_operands_55 rfl (lv_at hl 3 rfl) ?_
        refine W.eq (g2 := F0 m 56 ls [.int v2, .ref (ad (lk b_1 10))]) rfl ?_
        refine lv_iconst (v := 2) G.1 G.2.1 d_Re_operands_56 (by decide) ?_
        refine lv_iadd G.1 G.2.1 d_Re_operands_57 ?_
        refine lv_aload_n G.1 G.2.1 d_Re_operands_58 rfl (lv_at hl 1 rfl) ?_
        refine lv_bipush (v := 107) G.1 G.2.1 d_Re_operands_59 (by decide) ?_
        refine ucVi (As := [.int 107]) (rest := [.int (v2 + 2), .ref (ad (lk b_1 10))]) G hP hD hS (cu_Re_take l D g ad y _ s_86 a0 107 H.size h_a0 h) w9_Re_take q1321 ⟨Nat.le_of_ble_eq_true rfl, Nat.le_of_ble_eq_true rfl⟩ rfl rfl h_a0 (q := (RRe, TRe, 18)) rfl rfl hl.1 rfl (Nat.le_of_ble_eq_true rfl) rfl hd d_Re_operands_61 (fun r_87 s_88 H locs h hP hD hS => ?_)
        refine ucVv (As := [.int (v2 + 2), .int r_87]) (rest := []) G hP hD hS (cu_In_put l D g ad y _ s_88 (lk b_1 10) (v2 + 2) r_87 H.size (lk_9_10 c_3) h) w9_In_put q1359 ⟨Nat.le_of_ble_eq_true rfl, Nat.le_of_ble_eq_true rfl⟩ rfl rfl (lk_9_10 c_3) (q := (RIn, TIn, 2)) rfl rfl hl.1 rfl (Nat.le_of_ble_eq_true rfl) rfl hd d_Re_operands_64 (fun s_90 H locs h hP hD hS => ?_)
        refine lv_goto (tgt := 349) G.1 G.2.1 d_Re_operands_67 (by decide) ?_
        exact J_349 y s_90 0 0 H locs h hP hD hS ls (lv_sub hl [] rfl)
    · skip
      have h := h.2 c17
      exact J_20 y σ 0 0 v1 v2 (lk b_1 10) H locs h hP hD hS ls (lv_sub hl [1, 2, 3, 0] rfl)
theorem q1406 : Cond.methodLink "ClassWorks$Reader" 259 y_Js_charAt ∈ lw_ok := lw_okmem (List.mem_of_getElem? (i := 1406) (by decide +kernel)) rfl
theorem q1407 : Cond.methodLink "ClassWorks$Reader" 265 y_Re_addCode ∈ lw_ok := lw_okmem (List.mem_of_getElem? (i := 1407) (by decide +kernel)) rfl
theorem q1410 : Cond.code y_Re_addCode b_Re_addCode 4 (some .int) ∈ lw_ok := lw_okmem (List.mem_of_getElem? (i := 1410) (by decide +kernel)) rfl
theorem q1409 : Cond.instanceMethod y_Re_addCode ∈ lw_ok := lw_okmem (List.mem_of_getElem? (i := 1409) (by decide +kernel)) rfl
theorem q34 : Cond.selects y_Re_addCode.cls y_Re_addCode y_Re_addCode ∈ lw_ok := lw_okmem (List.mem_of_getElem? (i := 34) (by decide +kernel)) rfl
theorem w9_Re_addCode : CWv y_Re_addCode b_Re_addCode 4 (some .int) 1 ∧ Cond.instanceMethod y_Re_addCode ∈ lw_ok ∧ Cond.selects y_Re_addCode.cls y_Re_addCode y_Re_addCode ∈ lw_ok := ⟨⟨q1410, q340, by decide +kernel, by decide +kernel, by decide +kernel⟩, q1409, q34⟩
theorem q1411 : Cond.methodLink "ClassWorks$Reader" 268 y_Re_operands ∈ lw_ok := lw_okmem (List.mem_of_getElem? (i := 1411) (by decide +kernel)) rfl
theorem q1414 : Cond.code y_Re_operands b_Re_operands 6 (none) ∈ lw_ok := lw_okmem (List.mem_of_getElem? (i := 1414) (by decide +kernel)) rfl
theorem q1413 : Cond.instanceMethod y_Re_operands ∈ lw_ok := lw_okmem (List.mem_of_getElem? (i := 1413) (by decide +kernel)) rfl
theorem q35 : Cond.selects y_Re_operands.cls y_Re_operands y_Re_operands ∈ lw_ok := lw_okmem (List.mem_of_getElem? (i := 35) (by decide +kernel)) rfl
theorem w9_Re_operands : CWv y_Re_operands b_Re_operands 6 (none) 2 ∧ Cond.instanceMethod y_Re_operands ∈ lw_ok ∧ Cond.selects y_Re_operands.cls y_Re_operands y_Re_operands ∈ lw_ok := ⟨⟨q1414, q340, by decide +kernel, by decide +kernel, by decide +kernel⟩, q1413, q35⟩
theorem q1401 : Cond.methodLink "ClassWorks$Reader" 254 y_Na_operation ∈ lw_ok := lw_okmem (List.mem_of_getElem? (i := 1401) (by decide +kernel)) rfl
theorem q1404 : Cond.code y_Na_operation b_Na_operation 2 (some .int) ∈ lw_ok := lw_okmem (List.mem_of_getElem? (i := 1404) (by decide +kernel)) rfl
theorem q1402 : Cond.instanceMethod y_Na_operation ∈ lw_ok := lw_okmem (List.mem_of_getElem? (i := 1402) (by decide +kernel)) rfl
theorem q1403 : Cond.selects y_Na_operation.cls y_Na_operation y_Na_operation ∈ lw_ok := lw_okmem (List.mem_of_getElem? (i := 1403) (by decide +kernel)) rfl
theorem w9_Na_operation : CWv y_Na_operation b_Na_operation 2 (some .int) 1 ∧ Cond.instanceMethod y_Na_operation ∈ lw_ok ∧ Cond.selects y_Na_operation.cls y_Na_operation y_Na_operation ∈ lw_ok := ⟨⟨q1404, q330, by decide +kernel, by decide +kernel, by decide +kernel⟩, q1402, q1403⟩
theorem q1381 : Cond.methodLink "ClassWorks$Reader" 176 y_Re_isKey ∈ lw_ok := lw_okmem (List.mem_of_getElem? (i := 1381) (by decide +kernel)) rfl
theorem q1384 : Cond.code y_Re_isKey b_Re_isKey 2 (some (.boolean)) ∈ lw_ok := lw_okmem (List.mem_of_getElem? (i := 1384) (by decide +kernel)) rfl
theorem q1383 : Cond.instanceMethod y_Re_isKey ∈ lw_ok := lw_okmem (List.mem_of_getElem? (i := 1383) (by decide +kernel)) rfl
theorem q29 : Cond.selects y_Re_isKey.cls y_Re_isKey y_Re_isKey ∈ lw_ok := lw_okmem (List.mem_of_getElem? (i := 29) (by decide +kernel)) rfl
theorem w9_Re_isKey : CWv y_Re_isKey b_Re_isKey 2 (some (.boolean)) 1 ∧ Cond.instanceMethod y_Re_isKey ∈ lw_ok ∧ Cond.selects y_Re_isKey.cls y_Re_isKey y_Re_isKey ∈ lw_ok := ⟨⟨q1384, q340, by decide +kernel, by decide +kernel, by decide +kernel⟩, q1383, q29⟩
theorem q1393 : Cond.methodLink "ClassWorks$Reader" 251 y_Re_handlerLine ∈ lw_ok := lw_okmem (List.mem_of_getElem? (i := 1393) (by decide +kernel)) rfl
theorem q1396 : Cond.code y_Re_handlerLine b_Re_handlerLine 3 (none) ∈ lw_ok := lw_okmem (List.mem_of_getElem? (i := 1396) (by decide +kernel)) rfl
theorem q1395 : Cond.instanceMethod y_Re_handlerLine ∈ lw_ok := lw_okmem (List.mem_of_getElem? (i := 1395) (by decide +kernel)) rfl
theorem q32 : Cond.selects y_Re_handlerLine.cls y_Re_handlerLine y_Re_handlerLine ∈ lw_ok := lw_okmem (List.mem_of_getElem? (i := 32) (by decide +kernel)) rfl
theorem w9_Re_handlerLine : CWv y_Re_handlerLine b_Re_handlerLine 3 (none) 0 ∧ Cond.instanceMethod y_Re_handlerLine ∈ lw_ok ∧ Cond.selects y_Re_handlerLine.cls y_Re_handlerLine y_Re_handlerLine ∈ lw_ok := ⟨⟨q1396, q340, by decide +kernel, by decide +kernel, by decide +kernel⟩, q1395, q32⟩
theorem q1385 : Cond.methodLink "ClassWorks$Reader" 248 y_Re_frameLine ∈ lw_ok := lw_okmem (List.mem_of_getElem? (i := 1385) (by decide +kernel)) rfl
theorem q1388 : Cond.code y_Re_frameLine b_Re_frameLine 1 (none) ∈ lw_ok := lw_okmem (List.mem_of_getElem? (i := 1388) (by decide +kernel)) rfl
theorem q1387 : Cond.instanceMethod y_Re_frameLine ∈ lw_ok := lw_okmem (List.mem_of_getElem? (i := 1387) (by decide +kernel)) rfl
theorem q30 : Cond.selects y_Re_frameLine.cls y_Re_frameLine y_Re_frameLine ∈ lw_ok := lw_okmem (List.mem_of_getElem? (i := 30) (by decide +kernel)) rfl
theorem w9_Re_frameLine : CWv y_Re_frameLine b_Re_frameLine 1 (none) 0 ∧ Cond.instanceMethod y_Re_frameLine ∈ lw_ok ∧ Cond.selects y_Re_frameLine.cls y_Re_frameLine y_Re_frameLine ∈ lw_ok := ⟨⟨q1388, q340, by decide +kernel, by decide +kernel, by decide +kernel⟩, q1387, q30⟩
theorem q1360 : Cond.methodLink "ClassWorks$Reader" 115 y_Re_isLabel ∈ lw_ok := lw_okmem (List.mem_of_getElem? (i := 1360) (by decide +kernel)) rfl
theorem q1363 : Cond.code y_Re_isLabel b_Re_isLabel 1 (some (.boolean)) ∈ lw_ok := lw_okmem (List.mem_of_getElem? (i := 1363) (by decide +kernel)) rfl
theorem q1362 : Cond.instanceMethod y_Re_isLabel ∈ lw_ok := lw_okmem (List.mem_of_getElem? (i := 1362) (by decide +kernel)) rfl
theorem q24 : Cond.selects y_Re_isLabel.cls y_Re_isLabel y_Re_isLabel ∈ lw_ok := lw_okmem (List.mem_of_getElem? (i := 24) (by decide +kernel)) rfl
theorem w9_Re_isLabel : CWv y_Re_isLabel b_Re_isLabel 1 (some (.boolean)) 0 ∧ Cond.instanceMethod y_Re_isLabel ∈ lw_ok ∧ Cond.selects y_Re_isLabel.cls y_Re_isLabel y_Re_isLabel ∈ lw_ok := ⟨⟨q1363, q340, by decide +kernel, by decide +kernel, by decide +kernel⟩, q1362, q24⟩
theorem q1372 : Cond.methodLink "ClassWorks$Reader" 245 y_Re_tellLabel ∈ lw_ok := lw_okmem (List.mem_of_getElem? (i := 1372) (by decide +kernel)) rfl
theorem q1375 : Cond.code y_Re_tellLabel b_Re_tellLabel 2 (none) ∈ lw_ok := lw_okmem (List.mem_of_getElem? (i := 1375) (by decide +kernel)) rfl
theorem q1374 : Cond.instanceMethod y_Re_tellLabel ∈ lw_ok := lw_okmem (List.mem_of_getElem? (i := 1374) (by decide +kernel)) rfl
theorem q27 : Cond.selects y_Re_tellLabel.cls y_Re_tellLabel y_Re_tellLabel ∈ lw_ok := lw_okmem (List.mem_of_getElem? (i := 27) (by decide +kernel)) rfl
theorem w9_Re_tellLabel : CWv y_Re_tellLabel b_Re_tellLabel 2 (none) 1 ∧ Cond.instanceMethod y_Re_tellLabel ∈ lw_ok ∧ Cond.selects y_Re_tellLabel.cls y_Re_tellLabel y_Re_tellLabel ∈ lw_ok := ⟨⟨q1375, q340, by decide +kernel, by decide +kernel, by decide +kernel⟩, q1374, q27⟩
def y_Re_bodyLine : MethodName := ⟨"ClassWorks$Reader", "bodyLine", "()V"⟩
abbrev b_Re_bodyLine : ByteArray := prog_8_method_23_code
theorem d_Re_bodyLine_0 : decode b_Re_bodyLine 0 = .ok (.iconst 0, 1) := by decide +kernel
theorem d_Re_bodyLine_1 : decode b_Re_bodyLine 1 = .ok (.istore_n 1, 1) := by decide +kernel
theorem d_Re_bodyLine_2 : decode b_Re_bodyLine 2 = .ok (.iload_n 1, 1) := by decide +kernel
theorem d_Re_bodyLine_3 : decode b_Re_bodyLine 3 = .ok (.sipush 6000, 3) := by decide +kernel
theorem d_Re_bodyLine_6 : decode b_Re_bodyLine 6 = .ok (.if_icmp .ge 42, 3) := by decide +kernel
theorem d_Re_bodyLine_9 : decode b_Re_bodyLine 9 = .ok (.aload_n 0, 1) := by decide +kernel
theorem d_Re_bodyLine_10 : decode b_Re_bodyLine 10 = .ok (.invokevirtual 115, 3) := by decide +kernel
theorem d_Re_bodyLine_13 : decode b_Re_bodyLine 13 = .ok (.ifCond .eq 35, 3) := by decide +kernel
theorem d_Re_bodyLine_16 : decode b_Re_bodyLine 16 = .ok (.aload_n 0, 1) := by decide +kernel
theorem d_Re_bodyLine_17 : decode b_Re_bodyLine 17 = .ok (.aload_n 0, 1) := by decide +kernel
theorem d_Re_bodyLine_18 : decode b_Re_bodyLine 18 = .ok (.getfield 68, 3) := by decide +kernel
theorem d_Re_bodyLine_21 : decode b_Re_bodyLine 21 = .ok (.getfield 137, 3) := by decide +kernel
theorem d_Re_bodyLine_24 : decode b_Re_bodyLine 24 = .ok (.aload_n 0, 1) := by decide +kernel
theorem d_Re_bodyLine_25 : decode b_Re_bodyLine 25 = .ok (.getfield 27, 3) := by decide +kernel
theorem d_Re_bodyLine_28 : decode b_Re_bodyLine 28 = .ok (.iaload, 1) := by decide +kernel
theorem d_Re_bodyLine_29 : decode b_Re_bodyLine 29 = .ok (.invokevirtual 245, 3) := by decide +kernel
theorem d_Re_bodyLine_32 : decode b_Re_bodyLine 32 = .ok (.aload_n 0, 1) := by decide +kernel
theorem d_Re_bodyLine_33 : decode b_Re_bodyLine 33 = .ok (.dup, 1) := by decide +kernel
theorem d_Re_bodyLine_34 : decode b_Re_bodyLine 34 = .ok (.getfield 27, 3) := by decide +kernel
theorem d_Re_bodyLine_37 : decode b_Re_bodyLine 37 = .ok (.iconst 2, 1) := by decide +kernel
theorem d_Re_bodyLine_38 : decode b_Re_bodyLine 38 = .ok (.iadd, 1) := by decide +kernel
theorem d_Re_bodyLine_39 : decode b_Re_bodyLine 39 = .ok (.putfield 27, 3) := by decide +kernel
theorem d_Re_bodyLine_42 : decode b_Re_bodyLine 42 = .ok (.iinc 1 1, 3) := by decide +kernel
theorem d_Re_bodyLine_45 : decode b_Re_bodyLine 45 = .ok (.goto (-43), 3) := by decide +kernel
theorem d_Re_bodyLine_48 : decode b_Re_bodyLine 48 = .ok (.aload_n 0, 1) := by decide +kernel
theorem d_Re_bodyLine_49 : decode b_Re_bodyLine 49 = .ok (.getfield 27, 3) := by decide +kernel
theorem d_Re_bodyLine_52 : decode b_Re_bodyLine 52 = .ok (.ifCond .le 19, 3) := by decide +kernel
theorem d_Re_bodyLine_55 : decode b_Re_bodyLine 55 = .ok (.aload_n 0, 1) := by decide +kernel
theorem d_Re_bodyLine_56 : decode b_Re_bodyLine 56 = .ok (.getfield 68, 3) := by decide +kernel
theorem d_Re_bodyLine_59 : decode b_Re_bodyLine 59 = .ok (.getfield 134, 3) := by decide +kernel
theorem d_Re_bodyLine_62 : decode b_Re_bodyLine 62 = .ok (.aload_n 0, 1) := by decide +kernel
theorem d_Re_bodyLine_63 : decode b_Re_bodyLine 63 = .ok (.getfield 27, 3) := by decide +kernel
theorem d_Re_bodyLine_66 : decode b_Re_bodyLine 66 = .ok (.iaload, 1) := by decide +kernel
theorem d_Re_bodyLine_67 : decode b_Re_bodyLine 67 = .ok (.ifCond .ne 4, 3) := by decide +kernel
theorem d_Re_bodyLine_70 : decode b_Re_bodyLine 70 = .ok (.return_, 1) := by decide +kernel
theorem d_Re_bodyLine_71 : decode b_Re_bodyLine 71 = .ok (.aload_n 0, 1) := by decide +kernel
theorem d_Re_bodyLine_72 : decode b_Re_bodyLine 72 = .ok (.getfield 27, 3) := by decide +kernel
theorem d_Re_bodyLine_75 : decode b_Re_bodyLine 75 = .ok (.ifCond .ne 17, 3) := by decide +kernel
theorem d_Re_bodyLine_78 : decode b_Re_bodyLine 78 = .ok (.aload_n 0, 1) := by decide +kernel
theorem d_Re_bodyLine_79 : decode b_Re_bodyLine 79 = .ok (.bipush 34, 2) := by decide +kernel
theorem d_Re_bodyLine_81 : decode b_Re_bodyLine 81 = .ok (.invokevirtual 176, 3) := by decide +kernel
theorem d_Re_bodyLine_84 : decode b_Re_bodyLine 84 = .ok (.ifCond .eq 8, 3) := by decide +kernel
theorem d_Re_bodyLine_87 : decode b_Re_bodyLine 87 = .ok (.aload_n 0, 1) := by decide +kernel
theorem d_Re_bodyLine_88 : decode b_Re_bodyLine 88 = .ok (.invokevirtual 248, 3) := by decide +kernel
theorem d_Re_bodyLine_91 : decode b_Re_bodyLine 91 = .ok (.return_, 1) := by decide +kernel
theorem d_Re_bodyLine_92 : decode b_Re_bodyLine 92 = .ok (.aload_n 0, 1) := by decide +kernel
theorem d_Re_bodyLine_93 : decode b_Re_bodyLine 93 = .ok (.getfield 27, 3) := by decide +kernel
theorem d_Re_bodyLine_96 : decode b_Re_bodyLine 96 = .ok (.ifCond .ne 17, 3) := by decide +kernel
theorem d_Re_bodyLine_99 : decode b_Re_bodyLine 99 = .ok (.aload_n 0, 1) := by decide +kernel
theorem d_Re_bodyLine_100 : decode b_Re_bodyLine 100 = .ok (.bipush 35, 2) := by decide +kernel
theorem d_Re_bodyLine_102 : decode b_Re_bodyLine 102 = .ok (.invokevirtual 176, 3) := by decide +kernel
theorem d_Re_bodyLine_105 : decode b_Re_bodyLine 105 = .ok (.ifCond .eq 8, 3) := by decide +kernel
theorem d_Re_bodyLine_108 : decode b_Re_bodyLine 108 = .ok (.aload_n 0, 1) := by decide +kernel
theorem d_Re_bodyLine_109 : decode b_Re_bodyLine 109 = .ok (.invokevirtual 251, 3) := by decide +kernel
theorem d_Re_bodyLine_112 : decode b_Re_bodyLine 112 = .ok (.return_, 1) := by decide +kernel
theorem d_Re_bodyLine_113 : decode b_Re_bodyLine 113 = .ok (.aload_n 0, 1) := by decide +kernel
theorem d_Re_bodyLine_114 : decode b_Re_bodyLine 114 = .ok (.getfield 68, 3) := by decide +kernel
theorem d_Re_bodyLine_117 : decode b_Re_bodyLine 117 = .ok (.getfield 134, 3) := by decide +kernel
theorem d_Re_bodyLine_120 : decode b_Re_bodyLine 120 = .ok (.aload_n 0, 1) := by decide +kernel
theorem d_Re_bodyLine_121 : decode b_Re_bodyLine 121 = .ok (.getfield 27, 3) := by decide +kernel
theorem d_Re_bodyLine_124 : decode b_Re_bodyLine 124 = .ok (.iaload, 1) := by decide +kernel
theorem d_Re_bodyLine_125 : decode b_Re_bodyLine 125 = .ok (.iconst 1, 1) := by decide +kernel
theorem d_Re_bodyLine_126 : decode b_Re_bodyLine 126 = .ok (.if_icmp .ne 25, 3) := by decide +kernel
theorem d_Re_bodyLine_129 : decode b_Re_bodyLine 129 = .ok (.aload_n 0, 1) := by decide +kernel
theorem d_Re_bodyLine_130 : decode b_Re_bodyLine 130 = .ok (.getfield 64, 3) := by decide +kernel
theorem d_Re_bodyLine_133 : decode b_Re_bodyLine 133 = .ok (.aload_n 0, 1) := by decide +kernel
theorem d_Re_bodyLine_134 : decode b_Re_bodyLine 134 = .ok (.getfield 68, 3) := by decide +kernel
theorem d_Re_bodyLine_137 : decode b_Re_bodyLine 137 = .ok (.getfield 137, 3) := by decide +kernel
theorem d_Re_bodyLine_140 : decode b_Re_bodyLine 140 = .ok (.aload_n 0, 1) := by decide +kernel
theorem d_Re_bodyLine_141 : decode b_Re_bodyLine 141 = .ok (.getfield 27, 3) := by decide +kernel
theorem d_Re_bodyLine_144 : decode b_Re_bodyLine 144 = .ok (.iaload, 1) := by decide +kernel
theorem d_Re_bodyLine_145 : decode b_Re_bodyLine 145 = .ok (.invokevirtual 254, 3) := by decide +kernel
theorem d_Re_bodyLine_148 : decode b_Re_bodyLine 148 = .ok (.goto 4, 3) := by decide +kernel
theorem d_Re_bodyLine_151 : decode b_Re_bodyLine 151 = .ok (.iconst (-1), 1) := by decide +kernel
theorem d_Re_bodyLine_152 : decode b_Re_bodyLine 152 = .ok (.istore_n 1, 1) := by decide +kernel
theorem d_Re_bodyLine_153 : decode b_Re_bodyLine 153 = .ok (.iload_n 1, 1) := by decide +kernel
theorem d_Re_bodyLine_154 : decode b_Re_bodyLine 154 = .ok (.ifCond .ge 21, 3) := by decide +kernel
theorem d_Re_bodyLine_157 : decode b_Re_bodyLine 157 = .ok (.aload_n 0, 1) := by decide +kernel
theorem d_Re_bodyLine_158 : decode b_Re_bodyLine 158 = .ok (.iconst 1, 1) := by decide +kernel
theorem d_Re_bodyLine_159 : decode b_Re_bodyLine 159 = .ok (.aload_n 0, 1) := by decide +kernel
theorem d_Re_bodyLine_160 : decode b_Re_bodyLine 160 = .ok (.getfield 68, 3) := by decide +kernel
theorem d_Re_bodyLine_163 : decode b_Re_bodyLine 163 = .ok (.getfield 131, 3) := by decide +kernel
theorem d_Re_bodyLine_166 : decode b_Re_bodyLine 166 = .ok (.aload_n 0, 1) := by decide +kernel
theorem d_Re_bodyLine_167 : decode b_Re_bodyLine 167 = .ok (.getfield 27, 3) := by decide +kernel
theorem d_Re_bodyLine_170 : decode b_Re_bodyLine 170 = .ok (.iaload, 1) := by decide +kernel
theorem d_Re_bodyLine_171 : decode b_Re_bodyLine 171 = .ok (.invokevirtual 96, 3) := by decide +kernel
theorem d_Re_bodyLine_174 : decode b_Re_bodyLine 174 = .ok (.return_, 1) := by decide +kernel
theorem d_Re_bodyLine_175 : decode b_Re_bodyLine 175 = .ok (.aload_n 0, 1) := by decide +kernel
theorem d_Re_bodyLine_176 : decode b_Re_bodyLine 176 = .ok (.dup, 1) := by decide +kernel
theorem d_Re_bodyLine_177 : decode b_Re_bodyLine 177 = .ok (.getfield 27, 3) := by decide +kernel
theorem d_Re_bodyLine_180 : decode b_Re_bodyLine 180 = .ok (.iconst 1, 1) := by decide +kernel
theorem d_Re_bodyLine_181 : decode b_Re_bodyLine 181 = .ok (.iadd, 1) := by decide +kernel
theorem d_Re_bodyLine_182 : decode b_Re_bodyLine 182 = .ok (.putfield 27, 3) := by decide +kernel
theorem d_Re_bodyLine_185 : decode b_Re_bodyLine 185 = .ok (.aload_n 0, 1) := by decide +kernel
theorem d_Re_bodyLine_186 : decode b_Re_bodyLine 186 = .ok (.ldc_w 257, 3) := by decide +kernel
theorem d_Re_bodyLine_189 : decode b_Re_bodyLine 189 = .ok (.iload_n 1, 1) := by decide +kernel
theorem d_Re_bodyLine_190 : decode b_Re_bodyLine 190 = .ok (.invokevirtual 259, 3) := by decide +kernel
theorem d_Re_bodyLine_193 : decode b_Re_bodyLine 193 = .ok (.aload_n 0, 1) := by decide +kernel
theorem d_Re_bodyLine_194 : decode b_Re_bodyLine 194 = .ok (.iload_n 1, 1) := by decide +kernel
theorem d_Re_bodyLine_195 : decode b_Re_bodyLine 195 = .ok (.invokevirtual 265, 3) := by decide +kernel
theorem d_Re_bodyLine_198 : decode b_Re_bodyLine 198 = .ok (.invokevirtual 268, 3) := by decide +kernel
theorem d_Re_bodyLine_201 : decode b_Re_bodyLine 201 = .ok (.aload_n 0, 1) := by decide +kernel
theorem d_Re_bodyLine_202 : decode b_Re_bodyLine 202 = .ok (.bipush 36, 2) := by decide +kernel
theorem d_Re_bodyLine_204 : decode b_Re_bodyLine 204 = .ok (.invokevirtual 147, 3) := by decide +kernel
theorem d_Re_bodyLine_207 : decode b_Re_bodyLine 207 = .ok (.pop, 1) := by decide +kernel
theorem d_Re_bodyLine_208 : decode b_Re_bodyLine 208 = .ok (.return_, 1) := by decide +kernel
abbrev ra_Re_bodyLine (mc ms : Nat) : Room := { frames := 7, cells := mc, slots := ms, locals := 473 }
def wja_Re_bodyLine_152 (mc ms : Nat) (Post : Ly → St → Nat → Nat → Prop) (a0 : Nat) (y_j152 : Ly) (s_j152 : St) (d_j152 e_j152 : Nat) (z0j152 : Int32) : Prop := (d_j152 ≤ mc ∧ e_j152 ≤ ms) ∧ ((0 ≤ z0j152 → xP (uV s_j152 a0 8 ((sV s_j152 a0 8) + 1)) (fun s_2 : St => xH 8 z0j152 (fun x_3 : Int32 => ∃ mc_9 ms_10 : Nat, (d_j152 + mc_9 ≤ mc ∧ e_j152 + ms_10 ≤ ms) ∧ wa_Re_addCode mc_9 ms_10 y_j152 (fun (y_6 : Ly) (s_5 : St) (r_4 : Int32) (d_7 e_8 : Nat) => (d_j152 + d_7 ≤ mc ∧ e_j152 + e_8 ≤ ms) ∧ ∃ mc_17 ms_18 : Nat, (d_j152 + d_7 + mc_17 ≤ mc ∧ e_j152 + e_8 + ms_18 ≤ ms) ∧ wa_Re_operands mc_17 ms_18 y_6 (fun (y_14 : Ly) (s_13 : St) (d_15 e_16 : Nat) => (d_j152 + d_7 + d_15 ≤ mc ∧ e_j152 + e_8 + e_16 ≤ ms) ∧ wu_Re_take y_14 (fun (s_21 : St) (r_20 : Int32) => Post y_14 s_21 (d_j152 + d_7 + d_15) (e_j152 + e_8 + e_16)) s_13 a0 36) s_5 a0 x_3 r_4) s_2 a0 z0j152))) ∧ (¬ (0 ≤ z0j152) → xA y_j152 s_j152 (lk a0 3) 2 (sV s_j152 a0 8) (fun x_22 : Int32 => wu_Re_refuse y_j152 (fun (s_24 : St) => Post y_j152 s_24 d_j152 e_j152) s_j152 a0 1 x_22)))
def wja_Re_bodyLine_113 (mc ms : Nat) (Post : Ly → St → Nat → Nat → Prop) (a0 : Nat) (y_j113 : Ly) (s_j113 : St) (d_j113 e_j113 : Nat) : Prop := (d_j113 ≤ mc ∧ e_j113 ≤ ms) ∧ xA y_j113 s_j113 (lk a0 3) 0 (sV s_j113 a0 8) (fun x_1 : Int32 => ((¬ x_1 = 1 → wja_Re_bodyLine_152 mc ms Post a0 y_j113 s_j113 d_j113 e_j113 (-1)) ∧ (x_1 = 1 → xA y_j113 s_j113 (lk a0 3) 1 (sV s_j113 a0 8) (fun x_25 : Int32 => wu_Na_operation y_j113 (fun (s_27 : St) (r_26 : Int32) => wja_Re_bodyLine_152 mc ms Post a0 y_j113 s_27 d_j113 e_j113 r_26) s_j113 (lk a0 2) x_25))))
def wja_Re_bodyLine_92 (mc ms : Nat) (Post : Ly → St → Nat → Nat → Prop) (a0 : Nat) (y_j92 : Ly) (s_j92 : St) (d_j92 e_j92 : Nat) : Prop := (d_j92 ≤ mc ∧ e_j92 ≤ ms) ∧ ((¬ (sV s_j92 a0 8) = 0 → wja_Re_bodyLine_113 mc ms Post a0 y_j92 s_j92 d_j92 e_j92) ∧ ((sV s_j92 a0 8) = 0 → wu_Re_isKey y_j92 (fun (s_29 : St) (r_28 : Int32) => ((r_28 = 0 → wja_Re_bodyLine_113 mc ms Post a0 y_j92 s_29 d_j92 e_j92) ∧ (¬ (r_28 = 0) → ∃ mc_35 ms_36 : Nat, (d_j92 + mc_35 ≤ mc ∧ e_j92 + ms_36 ≤ ms) ∧ wa_Re_handlerLine mc_35 ms_36 y_j92 (fun (y_32 : Ly) (s_31 : St) (d_33 e_34 : Nat) => (d_j92 + d_33 ≤ mc ∧ e_j92 + e_34 ≤ ms) ∧ Post y_32 s_31 (d_j92 + d_33) (e_j92 + e_34)) s_29 a0))) s_j92 a0 35))
def wja_Re_bodyLine_71 (mc ms : Nat) (Post : Ly → St → Nat → Nat → Prop) (a0 : Nat) (y_j71 : Ly) (s_j71 : St) (d_j71 e_j71 : Nat) : Prop := (d_j71 ≤ mc ∧ e_j71 ≤ ms) ∧ ((¬ (sV s_j71 a0 8) = 0 → wja_Re_bodyLine_92 mc ms Post a0 y_j71 s_j71 d_j71 e_j71) ∧ ((sV s_j71 a0 8) = 0 → wu_Re_isKey y_j71 (fun (s_39 : St) (r_38 : Int32) => ((r_38 = 0 → wja_Re_bodyLine_92 mc ms Post a0 y_j71 s_39 d_j71 e_j71) ∧ (¬ (r_38 = 0) → ∃ mc_45 ms_46 : Nat, (d_j71 + mc_45 ≤ mc ∧ e_j71 + ms_46 ≤ ms) ∧ wa_Re_frameLine mc_45 ms_46 y_j71 (fun (y_42 : Ly) (s_41 : St) (d_43 e_44 : Nat) => (d_j71 + d_43 ≤ mc ∧ e_j71 + e_44 ≤ ms) ∧ Post y_42 s_41 (d_j71 + d_43) (e_j71 + e_44)) s_39 a0))) s_j71 a0 34))
def wja_Re_bodyLine_48 (mc ms : Nat) (Post : Ly → St → Nat → Nat → Prop) (a0 : Nat) (y_j48 : Ly) (s_j48 : St) (d_j48 e_j48 : Nat) : Prop := (d_j48 ≤ mc ∧ e_j48 ≤ ms) ∧ (((sV s_j48 a0 8) ≤ 0 → wja_Re_bodyLine_71 mc ms Post a0 y_j48 s_j48 d_j48 e_j48) ∧ (¬ ((sV s_j48 a0 8) ≤ 0) → xA y_j48 s_j48 (lk a0 3) 0 (sV s_j48 a0 8) (fun x_48 : Int32 => ((¬ x_48 = 0 → wja_Re_bodyLine_71 mc ms Post a0 y_j48 s_j48 d_j48 e_j48) ∧ (x_48 = 0 → Post y_j48 s_j48 d_j48 e_j48)))))
def wba_Re_bodyLine_2 (mc ms : Nat) (Post : Ly → St → Nat → Nat → Prop) (K_2 : Ly → St → Nat → Nat → Int32 → Prop) (a0 : Nat) (y_h2 : Ly) (s_h2 : St) (d_h2 e_h2 : Nat) (x1h2 : Int32) : Prop := (d_h2 ≤ mc ∧ e_h2 ≤ ms) ∧ ((6000 ≤ x1h2 → wja_Re_bodyLine_48 mc ms Post a0 y_h2 s_h2 d_h2 e_h2) ∧ (¬ (6000 ≤ x1h2) → wu_Re_isLabel y_h2 (fun (s_50 : St) (r_49 : Int32) => ((r_49 = 0 → wja_Re_bodyLine_48 mc ms Post a0 y_h2 s_50 d_h2 e_h2) ∧ (¬ (r_49 = 0) → xA y_h2 s_50 (lk a0 3) 1 (sV s_50 a0 8) (fun x_51 : Int32 => ∃ mc_57 ms_58 : Nat, (d_h2 + mc_57 ≤ mc ∧ e_h2 + ms_58 ≤ ms) ∧ wa_Re_tellLabel mc_57 ms_58 y_h2 (fun (y_54 : Ly) (s_53 : St) (d_55 e_56 : Nat) => (d_h2 + d_55 ≤ mc ∧ e_h2 + e_56 ≤ ms) ∧ xP (uV s_53 a0 8 ((sV s_53 a0 8) + 2)) (fun s_60 : St => K_2 y_54 s_60 (d_h2 + d_55) (e_h2 + e_56) (x1h2 + 1))) s_50 a0 x_51)))) s_h2 a0))
def wla_Re_bodyLine_2 (mc ms : Nat) (Post : Ly → St → Nat → Nat → Prop) (a0 : Nat) (y_h2 : Ly) (s_h2 : St) (d_h2 e_h2 : Nat) (x1h2 : Int32) : Prop := ∃ (I : Ly → St → Nat → Nat → Int32 → Prop) (μ : Ly → St → Nat → Nat → Int32 → Nat), I y_h2 s_h2 d_h2 e_h2 x1h2 ∧ ∀ (u1 : Ly) (u2 : St) (u3 u4 : Nat) (t0 : Int32), I u1 u2 u3 u4 t0 → wba_Re_bodyLine_2 mc ms Post (fun z1 z2 z3 z4 t0q => I z1 z2 z3 z4 t0q ∧ μ z1 z2 z3 z4 t0q < μ u1 u2 u3 u4 t0) a0 u1 u2 u3 u4 t0
def wa_Re_bodyLine (mc ms : Nat) (y : Ly) (Post : Ly → St → Nat → Nat → Prop) (σ : St) (a0 : Nat) : Prop := wla_Re_bodyLine_2 mc ms Post a0 y σ 0 0 0
set_option maxHeartbeats 4000000 in
set_option maxRecDepth 100000 in
theorem ca_Re_bodyLine (l : Launch) (D : va_G) (g : Nat → ClassId) (F : Nat → SL) (sl : List SL) (hF : SOK F sl) (ad : Nat → Nat) (mc ms : Nat) (y : Ly) (Post : Ly → St → Nat → Nat → Prop) (σ : St) (a0 : Nat) (sz uz : Nat) (h_a0 : cl a0 = 6) (h : wa_Re_bodyLine mc ms y Post σ a0) : Met l y_Re_bodyLine (mw y_Re_bodyLine b_Re_bodyLine 2 (none)) (ra_Re_bodyLine mc ms) (PCu g D sl [.ref (ad a0)] sz uz (ws g ad y σ)) (va_Qv (fun (u : Ly × St × Nat × Nat) => Post u.1 u.2.1 u.2.2.1 u.2.2.2) (QU D (va_A (ws g ad y σ) sz) (fun u => ws g ad u.1 u.2.1) sz uz (fun u => u.2.2.1) (fun u => u.2.2.2)) (va_A (ws g ad y σ) sz)) mc ms (va_A (ws g ad y σ) sz) := by
  refine ofVu (by decide +kernel) (Nat.le_of_ble_eq_true rfl) ?_
  intro p e s m args below meth c A Q ls H locs G hsz hP hD hS hl hret
  subst hsz
  have hl : lv_has ls 2 [(0, .ref (ad a0))] := hl
  have hd : 0 ≤ mc ∧ 0 ≤ ms := ⟨Nat.zero_le _, Nat.zero_le _⟩
  unfold wa_Re_bodyLine at h
  refine lv_iconst (v := 0) G.1 G.2.1 d_Re_bodyLine_0 (by decide) ?_
  refine lv_istore_n (lv' := [(1, .int 0), (0, .ref (ad a0))]) G.1 G.2.1 d_Re_bodyLine_1 rfl hl (by decide) rfl (fun ls hl => ?_)
  unfold wla_Re_bodyLine_2 at h
  obtain ⟨I_2, μ_2, hI_2, hB_2⟩ := h
  have L_2 : ∀ (n_2 : Nat) (y_h2 : Ly) (s_h2 : St) (d_h2 e_h2 : Nat) (x1h2 : Int32), μ_2 y_h2 s_h2 d_h2 e_h2 x1h2 < n_2 → I_2 y_h2 s_h2 d_h2 e_h2 x1h2 → ∀ (H : Heap) (locs : List Loc), va_P D CL (ws g ad y_h2 s_h2) H → va_D A (ws g ad y_h2 s_h2) → va_S A s.heap H locs → ∀ ls, lv_has ls 2 [(0, .ref (ad a0)), (1, .int x1h2)] → W p l e (ra_Re_bodyLine mc ms) s m args below meth c H locs d_h2 e_h2 Q (F0 m 2 ls []) := by
    intro n_2
    induction n_2 with
    | zero => intro y_h2 s_h2 d_h2 e_h2 x1h2 hμ; exact absurd hμ (Nat.not_lt_zero _)
    | succ n_2 ih_2 =>
      intro y_h2 s_h2 d_h2 e_h2 x1h2 hμ_2 hJ H locs hP hD hS ls hl
      obtain ⟨K_2, hK_2, h⟩ : ∃ K : Ly → St → Nat → Nat → Int32 → Prop, (∀ z1 z2 z3 z4 (t0 : Int32), K z1 z2 z3 z4 t0 → I_2 z1 z2 z3 z4 t0 ∧ μ_2 z1 z2 z3 z4 t0 < μ_2 y_h2 s_h2 d_h2 e_h2 x1h2) ∧ wba_Re_bodyLine_2 mc ms Post K a0 y_h2 s_h2 d_h2 e_h2 x1h2 := ⟨_, fun _ _ _ _ _ h => h, hB_2 y_h2 s_h2 d_h2 e_h2 x1h2 hJ⟩
      unfold wba_Re_bodyLine_2 at h
      obtain ⟨hd, h⟩ := h
      refine lv_iload_n G.1 G.2.1 d_Re_bodyLine_2 rfl (lv_at hl 1 rfl) ?_
      refine lv_sipush (v := 6000) G.1 G.2.1 d_Re_bodyLine_3 (by decide) ?_
      have J_48 : ∀ (y_j48 : Ly) (s_j48 : St) (d_j48 e_j48 : Nat) (H : Heap) (locs : List Loc), wja_Re_bodyLine_48 mc ms Post a0 y_j48 s_j48 d_j48 e_j48 → va_P D CL (ws g ad y_j48 s_j48) H → va_D A (ws g ad y_j48 s_j48) → va_S A s.heap H locs → ∀ ls, lv_has ls 2 [(0, .ref (ad a0))] → W p l e (ra_Re_bodyLine mc ms) s m args below meth c H locs d_j48 e_j48 Q (F0 m 48 ls []) := by
        intro y_j48 s_j48 d_j48 e_j48 H locs h hP hD hS ls hl
        unfold wja_Re_bodyLine_48 at h
        obtain ⟨hd, h⟩ := h
        refine lv_aload_n G.1 G.2.1 d_Re_bodyLine_48 rfl (lv_at hl 0 rfl) ?_
        refine ugf (v := .int (sV s_j48 a0 8)) G hP h_a0 iRe rfl 8 (by decide) rfl q595 rfl rfl d_Re_bodyLine_49 ?_
        have J_71 : ∀ (y_j71 : Ly) (s_j71 : St) (d_j71 e_j71 : Nat) (H : Heap) (locs : List Loc), wja_Re_bodyLine_71 mc ms Post a0 y_j71 s_j71 d_j71 e_j71 → va_P D CL (ws g ad y_j71 s_j71) H → va_D A (ws g ad y_j71 s_j71) → va_S A s.heap H locs → ∀ ls, lv_has ls 2 [(0, .ref (ad a0))] → W p l e (ra_Re_bodyLine mc ms) s m args below meth c H locs d_j71 e_j71 Q (F0 m 71 ls []) := by
          intro y_j71 s_j71 d_j71 e_j71 H locs h hP hD hS ls hl
          unfold wja_Re_bodyLine_71 at h
          obtain ⟨hd, h⟩ := h
          refine lv_aload_n G.1 G.2.1 d_Re_bodyLine_71 rfl (lv_at hl 0 rfl) ?_
          refine ugf (v := .int (sV s_j71 a0 8)) G hP h_a0 iRe rfl 8 (by decide) rfl q595 rfl rfl d_Re_bodyLine_72 ?_
          have J_92 : ∀ (y_j92 : Ly) (s_j92 : St) (d_j92 e_j92 : Nat) (H : Heap) (locs : List Loc), wja_Re_bodyLine_92 mc ms Post a0 y_j92 s_j92 d_j92 e_j92 → va_P D CL (ws g ad y_j92 s_j92) H → va_D A (ws g ad y_j92 s_j92) → va_S A s.heap H locs → ∀ ls, lv_has ls 2 [(0, .ref (ad a0))] → W p l e (ra_Re_bodyLine mc ms) s m args below meth c H locs d_j92 e_j92 Q (F0 m 92 ls []) := by
            intro y_j92 s_j92 d_j92 e_j92 H locs h hP hD hS ls hl
            unfold wja_Re_bodyLine_92 at h
            obtain ⟨hd, h⟩ := h
            refine lv_aload_n G.1 G.2.1 d_Re_bodyLine_92 rfl (lv_at hl 0 rfl) ?_
            refine ugf (v := .int (sV s_j92 a0 8)) G hP h_a0 iRe rfl 8 (by decide) rfl q595 rfl rfl d_Re_bodyLine_93 ?_
            have J_113 : ∀ (y_j113 : Ly) (s_j113 : St) (d_j113 e_j113 : Nat) (H : Heap) (locs : List Loc), wja_Re_bodyLine_113 mc ms Post a0 y_j113 s_j113 d_j113 e_j113 → va_P D CL (ws g ad y_j113 s_j113) H → va_D A (ws g ad y_j113 s_j113) → va_S A s.heap H locs → ∀ ls, lv_has ls 2 [(0, .ref (ad a0))] → W p l e (ra_Re_bodyLine mc ms) s m args below meth c H locs d_j113 e_j113 Q (F0 m 113 ls []) := by
              intro y_j113 s_j113 d_j113 e_j113 H locs h hP hD hS ls hl
              unfold wja_Re_bodyLine_113 at h
              obtain ⟨hd, h⟩ := h
              refine lv_aload_n G.1 G.2.1 d_Re_bodyLine_113 rfl (lv_at hl 0 rfl) ?_
              refine ugf (v := .ref (ad (lk a0 3))) G hP h_a0 iRe rfl 3 (by decide) rfl q590 rfl rfl d_Re_bodyLine_114 ?_
              refine ugf (v := .ref (yP y_j113 (lk a0 3) 0)) G hP (lk_6_3 h_a0) iWo rfl 0 (by decide) rfl q548 rfl rfl d_Re_bodyLine_117 ?_
              refine lv_aload_n G.1 G.2.1 d_Re_bodyLine_120 rfl (lv_at hl 0 rfl) ?_
              refine ugf (v := .int (sV s_j113 a0 8)) G hP h_a0 iRe rfl 8 (by decide) rfl q595 rfl rfl d_Re_bodyLine_121 ?_
              refine uiald G hP (kdp (lk_6_3 h_a0) rfl) (typ (lk_6_3 h_a0) rfl) h d_Re_bodyLine_124 (fun x_1 h => ?_)
              refine lv_iconst (v := 1) G.1 G.2.1 d_Re_bodyLine_125 (by decide) ?_
              have J_152 : ∀ (y_j152 : Ly) (s_j152 : St) (d_j152 e_j152 : Nat) (z0j152 : Int32) (H : Heap) (locs : List Loc), wja_Re_bodyLine_152 mc ms Post a0 y_j152 s_j152 d_j152 e_j152 z0j152 → va_P D CL (ws g ad y_j152 s_j152) H → va_D A (ws g ad y_j152 s_j152) → va_S A s.heap H locs → ∀ ls, lv_has ls 2 [(0, .ref (ad a0))] → W p l e (ra_Re_bodyLine mc ms) s m args below meth c H locs d_j152 e_j152 Q (F0 m 152 ls [.int z0j152]) := by
                intro y_j152 s_j152 d_j152 e_j152 z0j152 H locs h hP hD hS ls hl
                unfold wja_Re_bodyLine_152 at h
                obtain ⟨hd, h⟩ := h
                refine lv_istore_n (lv' := [(1, .int z0j152), (0, .ref (ad a0))]) G.1 G.2.1 d_Re_bodyLine_152 rfl hl (by decide) rfl (fun ls hl => ?_)
                refine lv_iload_n G.1 G.2.1 d_Re_bodyLine_153 rfl (lv_at hl 0 rfl) ?_
                refine lv_if_ge (tgt := 175) G.1 G.2.1 d_Re_bodyLine_154 (by decide) (fun c154 => ?_) (fun c154 => ?_)
                · skip
                  have h := h.1 c154
                  refine lv_aload_n G.1 G.2.1 d_Re_bodyLine_175 rfl (lv_at hl 1 rfl) ?_
                  refine lv_dup G.1 G.2.1 d_Re_bodyLine_176 rfl ?_
                  refine ugf (v := .int (sV s_j152 a0 8)) G hP h_a0 iRe rfl 8 (by decide) rfl q595 rfl rfl d_Re_bodyLine_177 ?_
                  refine lv_iconst (v := 1) G.1 G.2.1 d_Re_bodyLine_180 (by decide) ?_
                  refine lv_iadd G.1 G.2.1 d_Re_bodyLine_181 ?_
                  refine upf G hP hD hS h 8 putV h_a0 iRe tRe tRe_ok nRe rfl (by decide) rfl q595 rfl rfl fV rfl rfl d_Re_bodyLine_182 (fun s_2 H locs h hP hD hS => ?_)
                  refine lv_aload_n G.1 G.2.1 d_Re_bodyLine_185 rfl (lv_at hl 1 rfl) ?_
                  refine uldcw (n := 8) hF rfl G d_Re_bodyLine_186 ?_
                  refine W.eq (g2 := F0 m 189 ls [.ref (sk (F 8)), .ref (ad a0)]) rfl ?_
                  refine lv_iload_n G.1 G.2.1 d_Re_bodyLine_189 rfl (lv_at hl 0 rfl) ?_
                  refine uchar hF (by decide +kernel) G hP hD hS h w9_Js_charAt q1406 ⟨Nat.le_of_ble_eq_true rfl, Nat.le_of_ble_eq_true rfl⟩ hl.1 (Nat.le_of_ble_eq_true rfl) hd d_Re_bodyLine_190 (fun x_3 H locs h hP hD hS => ?_)
                  refine lv_aload_n G.1 G.2.1 d_Re_bodyLine_193 rfl (lv_at hl 1 rfl) ?_
                  refine lv_iload_n G.1 G.2.1 d_Re_bodyLine_194 rfl (lv_at hl 0 rfl) ?_
                  obtain ⟨mc_9, ms_10, hr_11, h⟩ := h
                  refine uaVi (As := [.int z0j152]) (rest := [.int x_3, .ref (ad a0)]) G hP hD hS (ca_Re_addCode l D g ad mc_9 ms_10 y_j152 _ s_2 a0 z0j152 H.size (us H) h_a0 h) w9_Re_addCode q1407 ⟨Nat.le_of_ble_eq_true rfl, Nat.le_of_ble_eq_true rfl⟩ rfl rfl h_a0 (q := (RRe, TRe, 18)) rfl rfl hl.1 rfl (Nat.le_of_ble_eq_true rfl) rfl hr_11 d_Re_bodyLine_195 (fun r_4 y_6 s_5 d_7 e_8 H locs h hP hD hS => ?_)
                  have hl := lv_sub (l' := [(0, .ref (ad a0))]) hl [1] rfl
                  obtain ⟨hd, h⟩ := h
                  obtain ⟨mc_17, ms_18, hr_19, h⟩ := h
                  refine uaVv (As := [.int x_3, .int r_4]) (rest := []) G hP hD hS (ca_Re_operands l D g ad mc_17 ms_18 y_6 _ s_5 a0 x_3 r_4 H.size (us H) h_a0 h) w9_Re_operands q1411 ⟨Nat.le_of_ble_eq_true rfl, Nat.le_of_ble_eq_true rfl⟩ rfl rfl h_a0 (q := (RRe, TRe, 18)) rfl rfl hl.1 rfl (Nat.le_of_ble_eq_true rfl) rfl hr_19 d_Re_bodyLine_198 (fun y_14 s_13 d_15 e_16 H locs h hP hD hS => ?_)
                  obtain ⟨hd, h⟩ := h
                  refine lv_aload_n G.1 G.2.1 d_Re_bodyLine_201 rfl (lv_at hl 0 rfl) ?_
                  refine lv_bipush (v := 36) G.1 G.2.1 d_Re_bodyLine_202 (by decide) ?_
                  refine ucVi (As := [.int 36]) (rest := []) G hP hD hS (cu_Re_take l D g ad y_14 _ s_13 a0 36 H.size h_a0 h) w9_Re_take q1321 ⟨Nat.le_of_ble_eq_true rfl, Nat.le_of_ble_eq_true rfl⟩ rfl rfl h_a0 (q := (RRe, TRe, 18)) rfl rfl hl.1 rfl (Nat.le_of_ble_eq_true rfl) rfl hd d_Re_bodyLine_204 (fun r_20 s_21 H locs h hP hD hS => ?_)
                  refine lv_pop G.1 G.2.1 d_Re_bodyLine_207 rfl ?_
                  exact hret (y_14, s_21, d_j152 + d_7 + d_15, e_j152 + e_8 + e_16) _ _ _ _ _ ls h hP hD hS (Nat.le_refl _) (Nat.le_refl _) hd.1 hd.2 d_Re_bodyLine_208
                · skip
                  have h := h.2 c154
                  refine lv_aload_n G.1 G.2.1 d_Re_bodyLine_157 rfl (lv_at hl 1 rfl) ?_
                  refine lv_iconst (v := 1) G.1 G.2.1 d_Re_bodyLine_158 (by decide) ?_
                  refine lv_aload_n G.1 G.2.1 d_Re_bodyLine_159 rfl (lv_at hl 1 rfl) ?_
                  refine ugf (v := .ref (ad (lk a0 3))) G hP h_a0 iRe rfl 3 (by decide) rfl q590 rfl rfl d_Re_bodyLine_160 ?_
                  refine ugf (v := .ref (yP y_j152 (lk a0 3) 2)) G hP (lk_6_3 h_a0) iWo rfl 2 (by decide) rfl q552 rfl rfl d_Re_bodyLine_163 ?_
                  refine lv_aload_n G.1 G.2.1 d_Re_bodyLine_166 rfl (lv_at hl 1 rfl) ?_
                  refine ugf (v := .int (sV s_j152 a0 8)) G hP h_a0 iRe rfl 8 (by decide) rfl q595 rfl rfl d_Re_bodyLine_167 ?_
                  refine uiald G hP (kdp (lk_6_3 h_a0) rfl) (typ (lk_6_3 h_a0) rfl) h d_Re_bodyLine_170 (fun x_22 h => ?_)
                  refine W.eq (g2 := F0 m 171 ls [.int x_22, .int 1, .ref (ad a0)]) rfl ?_
                  refine ucVv (As := [.int 1, .int x_22]) (rest := []) G hP hD hS (cu_Re_refuse l D g ad y_j152 _ s_j152 a0 1 x_22 H.size h_a0 h) w9_Re_refuse q1317 ⟨Nat.le_of_ble_eq_true rfl, Nat.le_of_ble_eq_true rfl⟩ rfl rfl h_a0 (q := (RRe, TRe, 18)) rfl rfl hl.1 rfl (Nat.le_of_ble_eq_true rfl) rfl hd d_Re_bodyLine_171 (fun s_24 H locs h hP hD hS => ?_)
                  exact hret (y_j152, s_24, d_j152, e_j152) _ _ _ _ _ ls h hP hD hS (Nat.le_refl _) (Nat.le_refl _) hd.1 hd.2 d_Re_bodyLine_174
              refine lv_icmp_ne (tgt := 151) G.1 G.2.1 d_Re_bodyLine_126 (by decide) (fun c126 => ?_) (fun c126 => ?_)
              · skip
                have h := h.1 c126
                refine lv_iconst (v := (-1)) G.1 G.2.1 d_Re_bodyLine_151 (by decide) ?_
                exact J_152 y_j113 s_j113 d_j113 e_j113 (-1) H locs h hP hD hS ls (lv_sub hl [0] rfl)
              · skip
                have h := h.2 c126
                refine lv_aload_n G.1 G.2.1 d_Re_bodyLine_129 rfl (lv_at hl 0 rfl) ?_
                refine ugf (v := .ref (ad (lk a0 2))) G hP h_a0 iRe rfl 2 (by decide) rfl q589 rfl rfl d_Re_bodyLine_130 ?_
                refine lv_aload_n G.1 G.2.1 d_Re_bodyLine_133 rfl (lv_at hl 0 rfl) ?_
                refine W.eq (g2 := F0 m 134 ls [.ref (ad a0), .ref (ad (lk a0 2))]) rfl ?_
                refine ugf (v := .ref (ad (lk a0 3))) G hP h_a0 iRe rfl 3 (by decide) rfl q590 rfl rfl d_Re_bodyLine_134 ?_
                refine ugf (v := .ref (yP y_j113 (lk a0 3) 1)) G hP (lk_6_3 h_a0) iWo rfl 1 (by decide) rfl q550 rfl rfl d_Re_bodyLine_137 ?_
                refine lv_aload_n G.1 G.2.1 d_Re_bodyLine_140 rfl (lv_at hl 0 rfl) ?_
                refine ugf (v := .int (sV s_j113 a0 8)) G hP h_a0 iRe rfl 8 (by decide) rfl q595 rfl rfl d_Re_bodyLine_141 ?_
                refine uiald G hP (kdp (lk_6_3 h_a0) rfl) (typ (lk_6_3 h_a0) rfl) h d_Re_bodyLine_144 (fun x_25 h => ?_)
                refine ucVi (As := [.int x_25]) (rest := []) G hP hD hS (cu_Na_operation l D g ad y_j113 _ s_j113 (lk a0 2) x_25 H.size (lk_6_2 h_a0) h) w9_Na_operation q1401 ⟨Nat.le_of_ble_eq_true rfl, Nat.le_of_ble_eq_true rfl⟩ rfl rfl (lk_6_2 h_a0) (q := (RNa, TNa, 11)) rfl rfl hl.1 rfl (Nat.le_of_ble_eq_true rfl) rfl hd d_Re_bodyLine_145 (fun r_26 s_27 H locs h hP hD hS => ?_)
                refine lv_goto (tgt := 152) G.1 G.2.1 d_Re_bodyLine_148 (by decide) ?_
                exact J_152 y_j113 s_27 d_j113 e_j113 r_26 H locs h hP hD hS ls (lv_sub hl [0] rfl)
            refine lv_if_ne (tgt := 113) G.1 G.2.1 d_Re_bodyLine_96 (by decide) (fun c96 => ?_) (fun c96 => ?_)
            · skip
              have h := h.1 c96
              exact J_113 y_j92 s_j92 d_j92 e_j92 H locs h hP hD hS ls (lv_sub hl [0] rfl)
            · skip
              have h := h.2 c96
              refine lv_aload_n G.1 G.2.1 d_Re_bodyLine_99 rfl (lv_at hl 0 rfl) ?_
              refine lv_bipush (v := 35) G.1 G.2.1 d_Re_bodyLine_100 (by decide) ?_
              refine ucVi (As := [.int 35]) (rest := []) G hP hD hS (cu_Re_isKey l D g ad y_j92 _ s_j92 a0 35 H.size h_a0 h) w9_Re_isKey q1381 ⟨Nat.le_of_ble_eq_true rfl, Nat.le_of_ble_eq_true rfl⟩ rfl rfl h_a0 (q := (RRe, TRe, 18)) rfl rfl hl.1 rfl (Nat.le_of_ble_eq_true rfl) rfl hd d_Re_bodyLine_102 (fun r_28 s_29 H locs h hP hD hS => ?_)
              refine lv_if_eq (tgt := 113) G.1 G.2.1 d_Re_bodyLine_105 (by decide) (fun c105 => ?_) (fun c105 => ?_)
              · skip
                have h := h.1 c105
                exact J_113 y_j92 s_29 d_j92 e_j92 H locs h hP hD hS ls (lv_sub hl [0] rfl)
              · skip
                have h := h.2 c105
                refine lv_aload_n G.1 G.2.1 d_Re_bodyLine_108 rfl (lv_at hl 0 rfl) ?_
                obtain ⟨mc_35, ms_36, hr_37, h⟩ := h
                refine uaVv (As := []) (rest := []) G hP hD hS (ca_Re_handlerLine l D g ad mc_35 ms_36 y_j92 _ s_29 a0 H.size (us H) h_a0 h) w9_Re_handlerLine q1393 ⟨Nat.le_of_ble_eq_true rfl, Nat.le_of_ble_eq_true rfl⟩ rfl rfl h_a0 (q := (RRe, TRe, 18)) rfl rfl hl.1 rfl (Nat.le_of_ble_eq_true rfl) rfl hr_37 d_Re_bodyLine_109 (fun y_32 s_31 d_33 e_34 H locs h hP hD hS => ?_)
                have hl := lv_sub (l' := []) hl [] rfl
                obtain ⟨hd, h⟩ := h
                exact hret (y_32, s_31, d_j92 + d_33, e_j92 + e_34) _ _ _ _ _ ls h hP hD hS (Nat.le_refl _) (Nat.le_refl _) hd.1 hd.2 d_Re_bodyLine_112
          refine lv_if_ne (tgt := 92) G.1 G.2.1 d_Re_bodyLine_75 (by decide) (fun c75 => ?_) (fun c75 => ?_)
          · skip
            have h := h.1 c75
            exact J_92 y_j71 s_j71 d_j71 e_j71 H locs h hP hD hS ls (lv_sub hl [0] rfl)
          · skip
            have h := h.2 c75
            refine lv_aload_n G.1 G.2.1 d_Re_bodyLine_78 rfl (lv_at hl 0 rfl) ?_
            refine lv_bipush (v := 34) G.1 G.2.1 d_Re_bodyLine_79 (by decide) ?_
            refine ucVi (As := [.int 34]) (rest := []) G hP hD hS (cu_Re_isKey l D g ad y_j71 _ s_j71 a0 34 H.size h_a0 h) w9_Re_isKey q1381 ⟨Nat.le_of_ble_eq_true rfl, Nat.le_of_ble_eq_true rfl⟩ rfl rfl h_a0 (q := (RRe, TRe, 18)) rfl rfl hl.1 rfl (Nat.le_of_ble_eq_true rfl) rfl hd d_Re_bodyLine_81 (fun r_38 s_39 H locs h hP hD hS => ?_)
            refine lv_if_eq (tgt := 92) G.1 G.2.1 d_Re_bodyLine_84 (by decide) (fun c84 => ?_) (fun c84 => ?_)
            · skip
              have h := h.1 c84
              exact J_92 y_j71 s_39 d_j71 e_j71 H locs h hP hD hS ls (lv_sub hl [0] rfl)
            · skip
              have h := h.2 c84
              refine lv_aload_n G.1 G.2.1 d_Re_bodyLine_87 rfl (lv_at hl 0 rfl) ?_
              obtain ⟨mc_45, ms_46, hr_47, h⟩ := h
              refine uaVv (As := []) (rest := []) G hP hD hS (ca_Re_frameLine l D g ad mc_45 ms_46 y_j71 _ s_39 a0 H.size (us H) h_a0 h) w9_Re_frameLine q1385 ⟨Nat.le_of_ble_eq_true rfl, Nat.le_of_ble_eq_true rfl⟩ rfl rfl h_a0 (q := (RRe, TRe, 18)) rfl rfl hl.1 rfl (Nat.le_of_ble_eq_true rfl) rfl hr_47 d_Re_bodyLine_88 (fun y_42 s_41 d_43 e_44 H locs h hP hD hS => ?_)
              have hl := lv_sub (l' := []) hl [] rfl
              obtain ⟨hd, h⟩ := h
              exact hret (y_42, s_41, d_j71 + d_43, e_j71 + e_44) _ _ _ _ _ ls h hP hD hS (Nat.le_refl _) (Nat.le_refl _) hd.1 hd.2 d_Re_bodyLine_91
        refine lv_if_le (tgt := 71) G.1 G.2.1 d_Re_bodyLine_52 (by decide) (fun c52 => ?_) (fun c52 => ?_)
        · skip
          have h := h.1 c52
          exact J_71 y_j48 s_j48 d_j48 e_j48 H locs h hP hD hS ls (lv_sub hl [0] rfl)
        · skip
          have h := h.2 c52
          refine lv_aload_n G.1 G.2.1 d_Re_bodyLine_55 rfl (lv_at hl 0 rfl) ?_
          refine ugf (v := .ref (ad (lk a0 3))) G hP h_a0 iRe rfl 3 (by decide) rfl q590 rfl rfl d_Re_bodyLine_56 ?_
          refine ugf (v := .ref (yP y_j48 (lk a0 3) 0)) G hP (lk_6_3 h_a0) iWo rfl 0 (by decide) rfl q548 rfl rfl d_Re_bodyLine_59 ?_
          refine lv_aload_n G.1 G.2.1 d_Re_bodyLine_62 rfl (lv_at hl 0 rfl) ?_
          refine ugf (v := .int (sV s_j48 a0 8)) G hP h_a0 iRe rfl 8 (by decide) rfl q595 rfl rfl d_Re_bodyLine_63 ?_
          refine uiald G hP (kdp (lk_6_3 h_a0) rfl) (typ (lk_6_3 h_a0) rfl) h d_Re_bodyLine_66 (fun x_48 h => ?_)
          refine lv_if_ne (tgt := 71) G.1 G.2.1 d_Re_bodyLine_67 (by decide) (fun c67 => ?_) (fun c67 => ?_)
          · skip
            have h := h.1 c67
            exact J_71 y_j48 s_j48 d_j48 e_j48 H locs h hP hD hS ls (lv_sub hl [0] rfl)
          · skip
            have h := h.2 c67
            exact hret (y_j48, s_j48, d_j48, e_j48) _ _ _ _ _ ls h hP hD hS (Nat.le_refl _) (Nat.le_refl _) hd.1 hd.2 d_Re_bodyLine_70
      refine lv_icmp_ge (tgt := 48) G.1 G.2.1 d_Re_bodyLine_6 (by decide) (fun c6 => ?_) (fun c6 => ?_)
      · skip
        have h := h.1 c6
        exact J_48 y_h2 s_h2 d_h2 e_h2 H locs h hP hD hS ls (lv_sub hl [0] rfl)
      · skip
        have h := h.2 c6
        refine lv_aload_n G.1 G.2.1 d_Re_bodyLine_9 rfl (lv_at hl 0 rfl) ?_
        refine ucVi (As := []) (rest := []) G hP hD hS (cu_Re_isLabel l D g ad y_h2 _ s_h2 a0 H.size h_a0 h) w9_Re_isLabel q1360 ⟨Nat.le_of_ble_eq_true rfl, Nat.le_of_ble_eq_true rfl⟩ rfl rfl h_a0 (q := (RRe, TRe, 18)) rfl rfl hl.1 rfl (Nat.le_of_ble_eq_true rfl) rfl hd d_Re_bodyLine_10 (fun r_49 s_50 H locs h hP hD hS => ?_)
        refine lv_if_eq (tgt := 48) G.1 G.2.1 d_Re_bodyLine_13 (by decide) (fun c13 => ?_) (fun c13 => ?_)
        · skip
          have h := h.1 c13
          exact J_48 y_h2 s_50 d_h2 e_h2 H locs h hP hD hS ls (lv_sub hl [0] rfl)
        · skip
          have h := h.2 c13
          refine lv_aload_n G.1 G.2.1 d_Re_bodyLine_16 rfl (lv_at hl 0 rfl) ?_
          refine lv_aload_n G.1 G.2.1 d_Re_bodyLine_17 rfl (lv_at hl 0 rfl) ?_
          refine ugf (v := .ref (ad (lk a0 3))) G hP h_a0 iRe rfl 3 (by decide) rfl q590 rfl rfl d_Re_bodyLine_18 ?_
          refine ugf (v := .ref (yP y_h2 (lk a0 3) 1)) G hP (lk_6_3 h_a0) iWo rfl 1 (by decide) rfl q550 rfl rfl d_Re_bodyLine_21 ?_
          refine lv_aload_n G.1 G.2.1 d_Re_bodyLine_24 rfl (lv_at hl 0 rfl) ?_
          refine W.eq (g2 := F0 m 25 ls [.ref (ad a0), .ref (yP y_h2 (lk a0 3) 1), .ref (ad a0)]) rfl ?_
          refine ugf (v := .int (sV s_50 a0 8)) G hP h_a0 iRe rfl 8 (by decide) rfl q595 rfl rfl d_Re_bodyLine_25 ?_
          refine uiald G hP (kdp (lk_6_3 h_a0) rfl) (typ (lk_6_3 h_a0) rfl) h d_Re_bodyLine_28 (fun x_51 h => ?_)
          obtain ⟨mc_57, ms_58, hr_59, h⟩ := h
          refine uaVv (As := [.int x_51]) (rest := []) G hP hD hS (ca_Re_tellLabel l D g ad mc_57 ms_58 y_h2 _ s_50 a0 x_51 H.size (us H) h_a0 h) w9_Re_tellLabel q1372 ⟨Nat.le_of_ble_eq_true rfl, Nat.le_of_ble_eq_true rfl⟩ rfl rfl h_a0 (q := (RRe, TRe, 18)) rfl rfl hl.1 rfl (Nat.le_of_ble_eq_true rfl) rfl hr_59 d_Re_bodyLine_29 (fun y_54 s_53 d_55 e_56 H locs h hP hD hS => ?_)
          obtain ⟨hd, h⟩ := h
          refine lv_aload_n G.1 G.2.1 d_Re_bodyLine_32 rfl (lv_at hl 0 rfl) ?_
          refine lv_dup G.1 G.2.1 d_Re_bodyLine_33 rfl ?_
          refine ugf (v := .int (sV s_53 a0 8)) G hP h_a0 iRe rfl 8 (by decide) rfl q595 rfl rfl d_Re_bodyLine_34 ?_
          refine lv_iconst (v := 2) G.1 G.2.1 d_Re_bodyLine_37 (by decide) ?_
          refine lv_iadd G.1 G.2.1 d_Re_bodyLine_38 ?_
          refine upf G hP hD hS h 8 putV h_a0 iRe tRe tRe_ok nRe rfl (by decide) rfl q595 rfl rfl fV rfl rfl d_Re_bodyLine_39 (fun s_60 H locs h hP hD hS => ?_)
          refine lv_iinc (v := x1h2 + 1) (lv' := [(1, .int (x1h2 + 1)), (0, .ref (ad a0))]) G.1 G.2.1 d_Re_bodyLine_42 hl (k := 1) rfl rfl (by decide) rfl (fun ls hl => ?_)
          refine lv_goto (tgt := 2) G.1 G.2.1 d_Re_bodyLine_45 (by decide) ?_
          have h := hK_2 y_54 s_60 (d_h2 + d_55) (e_h2 + e_56) (x1h2 + 1) h
          exact ih_2 y_54 s_60 (d_h2 + d_55) (e_h2 + e_56) (x1h2 + 1) (Nat.lt_of_lt_of_le h.2 (Nat.le_of_lt_succ hμ_2)) h.1 H locs hP hD hS ls (lv_sub hl [1, 0] rfl)
  exact L_2 _ y σ 0 0 0 (Nat.lt_succ_self _) hI_2 H locs hP hD hS ls (lv_sub hl [1, 0] rfl)
def y_Re_addField : MethodName := ⟨"ClassWorks$Reader", "addField", "(IIIII)V"⟩
abbrev b_Re_addField : ByteArray := prog_8_method_17_code
theorem q837 : Cond.fieldLink "ClassWorks$Reader" 199 "ClassWorks$World" "fields" "LClassWorks$Ints;" ∈ lw_ok := lw_okmem (List.mem_of_getElem? (i := 837) (by decide +kernel)) rfl
theorem d_Re_addField_0 : decode b_Re_addField 0 = .ok (.aload_n 0, 1) := by decide +kernel
theorem d_Re_addField_1 : decode b_Re_addField 1 = .ok (.getfield 72, 3) := by decide +kernel
theorem d_Re_addField_4 : decode b_Re_addField 4 = .ok (.getfield 199, 3) := by decide +kernel
theorem d_Re_addField_7 : decode b_Re_addField 7 = .ok (.iload_n 1, 1) := by decide +kernel
theorem d_Re_addField_8 : decode b_Re_addField 8 = .ok (.invokevirtual 202, 3) := by decide +kernel
theorem d_Re_addField_11 : decode b_Re_addField 11 = .ok (.pop, 1) := by decide +kernel
theorem d_Re_addField_12 : decode b_Re_addField 12 = .ok (.aload_n 0, 1) := by decide +kernel
theorem d_Re_addField_13 : decode b_Re_addField 13 = .ok (.getfield 72, 3) := by decide +kernel
theorem d_Re_addField_16 : decode b_Re_addField 16 = .ok (.getfield 199, 3) := by decide +kernel
theorem d_Re_addField_19 : decode b_Re_addField 19 = .ok (.iload_n 2, 1) := by decide +kernel
theorem d_Re_addField_20 : decode b_Re_addField 20 = .ok (.invokevirtual 202, 3) := by decide +kernel
theorem d_Re_addField_23 : decode b_Re_addField 23 = .ok (.pop, 1) := by decide +kernel
theorem d_Re_addField_24 : decode b_Re_addField 24 = .ok (.aload_n 0, 1) := by decide +kernel
theorem d_Re_addField_25 : decode b_Re_addField 25 = .ok (.getfield 72, 3) := by decide +kernel
theorem d_Re_addField_28 : decode b_Re_addField 28 = .ok (.getfield 199, 3) := by decide +kernel
theorem d_Re_addField_31 : decode b_Re_addField 31 = .ok (.iload_n 3, 1) := by decide +kernel
theorem d_Re_addField_32 : decode b_Re_addField 32 = .ok (.invokevirtual 202, 3) := by decide +kernel
theorem d_Re_addField_35 : decode b_Re_addField 35 = .ok (.pop, 1) := by decide +kernel
theorem d_Re_addField_36 : decode b_Re_addField 36 = .ok (.aload_n 0, 1) := by decide +kernel
theorem d_Re_addField_37 : decode b_Re_addField 37 = .ok (.getfield 72, 3) := by decide +kernel
theorem d_Re_addField_40 : decode b_Re_addField 40 = .ok (.getfield 199, 3) := by decide +kernel
theorem d_Re_addField_43 : decode b_Re_addField 43 = .ok (.iload 4, 2) := by decide +kernel
theorem d_Re_addField_45 : decode b_Re_addField 45 = .ok (.invokevirtual 202, 3) := by decide +kernel
theorem d_Re_addField_48 : decode b_Re_addField 48 = .ok (.pop, 1) := by decide +kernel
theorem d_Re_addField_49 : decode b_Re_addField 49 = .ok (.aload_n 0, 1) := by decide +kernel
theorem d_Re_addField_50 : decode b_Re_addField 50 = .ok (.getfield 72, 3) := by decide +kernel
theorem d_Re_addField_53 : decode b_Re_addField 53 = .ok (.getfield 199, 3) := by decide +kernel
theorem d_Re_addField_56 : decode b_Re_addField 56 = .ok (.iload 5, 2) := by decide +kernel
theorem d_Re_addField_58 : decode b_Re_addField 58 = .ok (.invokevirtual 202, 3) := by decide +kernel
theorem d_Re_addField_61 : decode b_Re_addField 61 = .ok (.pop, 1) := by decide +kernel
theorem d_Re_addField_62 : decode b_Re_addField 62 = .ok (.aload_n 0, 1) := by decide +kernel
theorem d_Re_addField_63 : decode b_Re_addField 63 = .ok (.getfield 72, 3) := by decide +kernel
theorem d_Re_addField_66 : decode b_Re_addField 66 = .ok (.getfield 199, 3) := by decide +kernel
theorem d_Re_addField_69 : decode b_Re_addField 69 = .ok (.iconst 0, 1) := by decide +kernel
theorem d_Re_addField_70 : decode b_Re_addField 70 = .ok (.invokevirtual 202, 3) := by decide +kernel
theorem d_Re_addField_73 : decode b_Re_addField 73 = .ok (.pop, 1) := by decide +kernel
theorem d_Re_addField_74 : decode b_Re_addField 74 = .ok (.aload_n 0, 1) := by decide +kernel
theorem d_Re_addField_75 : decode b_Re_addField 75 = .ok (.getfield 72, 3) := by decide +kernel
theorem d_Re_addField_78 : decode b_Re_addField 78 = .ok (.getfield 199, 3) := by decide +kernel
theorem d_Re_addField_81 : decode b_Re_addField 81 = .ok (.iconst 0, 1) := by decide +kernel
theorem d_Re_addField_82 : decode b_Re_addField 82 = .ok (.invokevirtual 202, 3) := by decide +kernel
theorem d_Re_addField_85 : decode b_Re_addField 85 = .ok (.pop, 1) := by decide +kernel
theorem d_Re_addField_86 : decode b_Re_addField 86 = .ok (.return_, 1) := by decide +kernel
abbrev ra_Re_addField (mc ms : Nat) : Room := { frames := 5, cells := mc, slots := ms, locals := 421 }
def wa_Re_addField (mc ms : Nat) (y : Ly) (Post : Ly → St → Nat → Nat → Prop) (σ : St) (a0 : Nat) (v1 : Int32) (v2 : Int32) (v3 : Int32) (v4 : Int32) (v5 : Int32) : Prop := ∃ b_1 : Nat, sO σ a0 4 = some b_1 ∧ cl b_1 = 9 ∧ ∃ mc_9 ms_10 : Nat, (0 + mc_9 ≤ mc ∧ 0 + ms_10 ≤ ms) ∧ wa_In_add mc_9 ms_10 y (fun (y_6 : Ly) (s_5 : St) (r_4 : Int32) (d_7 e_8 : Nat) => (0 + d_7 ≤ mc ∧ 0 + e_8 ≤ ms) ∧ ∃ b_12 : Nat, sO s_5 a0 4 = some b_12 ∧ cl b_12 = 9 ∧ ∃ mc_20 ms_21 : Nat, (0 + d_7 + mc_20 ≤ mc ∧ 0 + e_8 + ms_21 ≤ ms) ∧ wa_In_add mc_20 ms_21 y_6 (fun (y_17 : Ly) (s_16 : St) (r_15 : Int32) (d_18 e_19 : Nat) => (0 + d_7 + d_18 ≤ mc ∧ 0 + e_8 + e_19 ≤ ms) ∧ ∃ b_23 : Nat, sO s_16 a0 4 = some b_23 ∧ cl b_23 = 9 ∧ ∃ mc_31 ms_32 : Nat, (0 + d_7 + d_18 + mc_31 ≤ mc ∧ 0 + e_8 + e_19 + ms_32 ≤ ms) ∧ wa_In_add mc_31 ms_32 y_17 (fun (y_28 : Ly) (s_27 : St) (r_26 : Int32) (d_29 e_30 : Nat) => (0 + d_7 + d_18 + d_29 ≤ mc ∧ 0 + e_8 + e_19 + e_30 ≤ ms) ∧ ∃ b_34 : Nat, sO s_27 a0 4 = some b_34 ∧ cl b_34 = 9 ∧ ∃ mc_42 ms_43 : Nat, (0 + d_7 + d_18 + d_29 + mc_42 ≤ mc ∧ 0 + e_8 + e_19 + e_30 + ms_43 ≤ ms) ∧ wa_In_add mc_42 ms_43 y_28 (fun (y_39 : Ly) (s_38 : St) (r_37 : Int32) (d_40 e_41 : Nat) => (0 + d_7 + d_18 + d_29 + d_40 ≤ mc ∧ 0 + e_8 + e_19 + e_30 + e_41 ≤ ms) ∧ ∃ b_45 : Nat, sO s_38 a0 4 = some b_45 ∧ cl b_45 = 9 ∧ ∃ mc_53 ms_54 : Nat, (0 + d_7 + d_18 + d_29 + d_40 + mc_53 ≤ mc ∧ 0 + e_8 + e_19 + e_30 + e_41 + ms_54 ≤ ms) ∧ wa_In_add mc_53 ms_54 y_39 (fun (y_50 : Ly) (s_49 : St) (r_48 : Int32) (d_51 e_52 : Nat) => (0 + d_7 + d_18 + d_29 + d_40 + d_51 ≤ mc ∧ 0 + e_8 + e_19 + e_30 + e_41 + e_52 ≤ ms) ∧ ∃ b_56 : Nat, sO s_49 a0 4 = some b_56 ∧ cl b_56 = 9 ∧ ∃ mc_64 ms_65 : Nat, (0 + d_7 + d_18 + d_29 + d_40 + d_51 + mc_64 ≤ mc ∧ 0 + e_8 + e_19 + e_30 + e_41 + e_52 + ms_65 ≤ ms) ∧ wa_In_add mc_64 ms_65 y_50 (fun (y_61 : Ly) (s_60 : St) (r_59 : Int32) (d_62 e_63 : Nat) => (0 + d_7 + d_18 + d_29 + d_40 + d_51 + d_62 ≤ mc ∧ 0 + e_8 + e_19 + e_30 + e_41 + e_52 + e_63 ≤ ms) ∧ ∃ b_67 : Nat, sO s_60 a0 4 = some b_67 ∧ cl b_67 = 9 ∧ ∃ mc_75 ms_76 : Nat, (0 + d_7 + d_18 + d_29 + d_40 + d_51 + d_62 + mc_75 ≤ mc ∧ 0 + e_8 + e_19 + e_30 + e_41 + e_52 + e_63 + ms_76 ≤ ms) ∧ wa_In_add mc_75 ms_76 y_61 (fun (y_72 : Ly) (s_71 : St) (r_70 : Int32) (d_73 e_74 : Nat) => (0 + d_7 + d_18 + d_29 + d_40 + d_51 + d_62 + d_73 ≤ mc ∧ 0 + e_8 + e_19 + e_30 + e_41 + e_52 + e_63 + e_74 ≤ ms) ∧ Post y_72 s_71 (0 + d_7 + d_18 + d_29 + d_40 + d_51 + d_62 + d_73) (0 + e_8 + e_19 + e_30 + e_41 + e_52 + e_63 + e_74)) s_60 (lk b_67 8) 0) s_49 (lk b_56 8) 0) s_38 (lk b_45 8) v5) s_27 (lk b_34 8) v4) s_16 (lk b_23 8) v3) s_5 (lk b_12 8) v2) σ (lk b_1 8) v1
set_option maxHeartbeats 4000000 in
set_option maxRecDepth 100000 in
theorem ca_Re_addField (l : Launch) (D : va_G) (g : Nat → ClassId) (ad : Nat → Nat) (mc ms : Nat) (y : Ly) (Post : Ly → St → Nat → Nat → Prop) (σ : St) (a0 : Nat) (v1 : Int32) (v2 : Int32) (v3 : Int32) (v4 : Int32) (v5 : Int32) (sz uz : Nat) (h_a0 : cl a0 = 6) (h : wa_Re_addField mc ms y Post σ a0 v1 v2 v3 v4 v5) : Met l y_Re_addField (mw y_Re_addField b_Re_addField 6 (none)) (ra_Re_addField mc ms) (PCu g D [] [.ref (ad a0), .int v1, .int v2, .int v3, .int v4, .int v5] sz uz (ws g ad y σ)) (va_Qv (fun (u : Ly × St × Nat × Nat) => Post u.1 u.2.1 u.2.2.1 u.2.2.2) (QU D (va_A (ws g ad y σ) sz) (fun u => ws g ad u.1 u.2.1) sz uz (fun u => u.2.2.1) (fun u => u.2.2.2)) (va_A (ws g ad y σ) sz)) mc ms (va_A (ws g ad y σ) sz) := by
  refine ofVu (by decide +kernel) (Nat.le_of_ble_eq_true rfl) ?_
  intro p e s m args below meth c A Q ls H locs G hsz hP hD hS hl hret
  subst hsz
  have hl : lv_has ls 6 [(0, .ref (ad a0)), (1, .int v1), (2, .int v2), (3, .int v3), (4, .int v4), (5, .int v5)] := hl
  have hd : 0 ≤ mc ∧ 0 ≤ ms := ⟨Nat.zero_le _, Nat.zero_le _⟩
  unfold wa_Re_addField at h
  refine lv_aload_n G.1 G.2.1 d_Re_addField_0 rfl (lv_at hl 0 rfl) ?_
  obtain ⟨b_1, e_2, c_3, h⟩ := h
  refine ugf (v := .ref (ad b_1)) G hP h_a0 iRe rfl 4 (by decide) rfl q591 rfl (by show va_rf ((sO σ a0 4).map ad) = _; rw [e_2]; rfl) d_Re_addField_1 ?_
  refine ugf (v := .ref (ad (lk b_1 8))) G hP c_3 iWd rfl 8 (by decide) rfl q837 rfl rfl d_Re_addField_4 ?_
  refine lv_iload_n G.1 G.2.1 d_Re_addField_7 rfl (lv_at hl 1 rfl) ?_
  obtain ⟨mc_9, ms_10, hr_11, h⟩ := h
  refine uaVi (As := [.int v1]) (rest := []) G hP hD hS (ca_In_add l D g [] ad mc_9 ms_10 y _ σ (lk b_1 8) v1 H.size (us H) (lk_9_8 c_3) h) w9_In_add q1380 ⟨Nat.le_of_ble_eq_true rfl, Nat.le_of_ble_eq_true rfl⟩ rfl rfl (lk_9_8 c_3) (q := (RIn, TIn, 2)) rfl rfl hl.1 rfl (Nat.le_of_ble_eq_true rfl) rfl hr_11 d_Re_addField_8 (fun r_4 y_6 s_5 d_7 e_8 H locs h hP hD hS => ?_)
  have hl := lv_sub (l' := [(0, .ref (ad a0)), (2, .int v2), (3, .int v3), (4, .int v4), (5, .int v5)]) hl [0, 2, 3, 4, 5] rfl
  obtain ⟨hd, h⟩ := h
  refine lv_pop G.1 G.2.1 d_Re_addField_11 rfl ?_
  refine lv_aload_n G.1 G.2.1 d_Re_addField_12 rfl (lv_at hl 0 rfl) ?_
  obtain ⟨b_12, e_13, c_14, h⟩ := h
  refine ugf (v := .ref (ad b_12)) G hP h_a0 iRe rfl 4 (by decide) rfl q591 rfl (by show va_rf ((sO s_5 a0 4).map ad) = _; rw [e_13]; rfl) d_Re_addField_13 ?_
  refine ugf (v := .ref (ad (lk b_12 8))) G hP c_14 iWd rfl 8 (by decide) rfl q837 rfl rfl d_Re_addField_16 ?_
  refine lv_iload_n G.1 G.2.1 d_Re_addField_19 rfl (lv_at hl 1 rfl) ?_
  obtain ⟨mc_20, ms_21, hr_22, h⟩ := h
  refine uaVi (As := [.int v2]) (rest := []) G hP hD hS (ca_In_add l D g [] ad mc_20 ms_21 y_6 _ s_5 (lk b_12 8) v2 H.size (us H) (lk_9_8 c_14) h) w9_In_add q1380 ⟨Nat.le_of_ble_eq_true rfl, Nat.le_of_ble_eq_true rfl⟩ rfl rfl (lk_9_8 c_14) (q := (RIn, TIn, 2)) rfl rfl hl.1 rfl (Nat.le_of_ble_eq_true rfl) rfl hr_22 d_Re_addField_20 (fun r_15 y_17 s_16 d_18 e_19 H locs h hP hD hS => ?_)
  have hl := lv_sub (l' := [(0, .ref (ad a0)), (3, .int v3), (4, .int v4), (5, .int v5)]) hl [0, 2, 3, 4] rfl
  obtain ⟨hd, h⟩ := h
  refine W.eq (g2 := F0 m 23 ls [.int r_15]) rfl ?_
  refine lv_pop G.1 G.2.1 d_Re_addField_23 rfl ?_
  refine lv_aload_n G.1 G.2.1 d_Re_addField_24 rfl (lv_at hl 0 rfl) ?_
  obtain ⟨b_23, e_24, c_25, h⟩ := h
  refine ugf (v := .ref (ad b_23)) G hP h_a0 iRe rfl 4 (by decide) rfl q591 rfl (by show va_rf ((sO s_16 a0 4).map ad) = _; rw [e_24]; rfl) d_Re_addField_25 ?_
  refine ugf (v := .ref (ad (lk b_23 8))) G hP c_25 iWd rfl 8 (by decide) rfl q837 rfl rfl d_Re_addField_28 ?_
  refine lv_iload_n G.1 G.2.1 d_Re_addField_31 rfl (lv_at hl 1 rfl) ?_
  obtain ⟨mc_31, ms_32, hr_33, h⟩ := h
  refine uaVi (As := [.int v3]) (rest := []) G hP hD hS (ca_In_add l D g [] ad mc_31 ms_32 y_17 _ s_16 (lk b_23 8) v3 H.size (us H) (lk_9_8 c_25) h) w9_In_add q1380 ⟨Nat.le_of_ble_eq_true rfl, Nat.le_of_ble_eq_true rfl⟩ rfl rfl (lk_9_8 c_25) (q := (RIn, TIn, 2)) rfl rfl hl.1 rfl (Nat.le_of_ble_eq_true rfl) rfl hr_33 d_Re_addField_32 (fun r_26 y_28 s_27 d_29 e_30 H locs h hP hD hS => ?_)
  have hl := lv_sub (l' := [(0, .ref (ad a0)), (4, .int v4), (5, .int v5)]) hl [0, 2, 3] rfl
  obtain ⟨hd, h⟩ := h
  refine lv_pop G.1 G.2.1 d_Re_addField_35 rfl ?_
  refine lv_aload_n G.1 G.2.1 d_Re_addField_36 rfl (lv_at hl 0 rfl) ?_
  obtain ⟨b_34, e_35, c_36, h⟩ := h
  refine ugf (v := .ref (ad b_34)) G hP h_a0 iRe rfl 4 (by decide) rfl q591 rfl (by show va_rf ((sO s_27 a0 4).map ad) = _; rw [e_35]; rfl) d_Re_addField_37 ?_
  refine ugf (v := .ref (ad (lk b_34 8))) G hP c_36 iWd rfl 8 (by decide) rfl q837 rfl rfl d_Re_addField_40 ?_
  refine lv_iload G.1 G.2.1 d_Re_addField_43 (lv_at hl 1 rfl) ?_
  obtain ⟨mc_42, ms_43, hr_44, h⟩ := h
  refine uaVi (As := [.int v4]) (rest := []) G hP hD hS (ca_In_add l D g [] ad mc_42 ms_43 y_28 _ s_27 (lk b_34 8) v4 H.size (us H) (lk_9_8 c_36) h) w9_In_add q1380 ⟨Nat.le_of_ble_eq_true rfl, Nat.le_of_ble_eq_true rfl⟩ rfl rfl (lk_9_8 c_36) (q := (RIn, TIn, 2)) rfl rfl hl.1 rfl (Nat.le_of_ble_eq_true rfl) rfl hr_44 d_Re_addField_45 (fun r_37 y_39 s_38 d_40 e_41 H locs h hP hD hS => ?_)
  have hl := lv_sub (l' := [(0, .ref (ad a0)), (5, .int v5)]) hl [0, 2] rfl
  obtain ⟨hd, h⟩ := h
  refine W.eq (g2 := F0 m 48 ls [.int r_37]) rfl ?_
  refine lv_pop G.1 G.2.1 d_Re_addField_48 rfl ?_
  refine lv_aload_n G.1 G.2.1 d_Re_addField_49 rfl (lv_at hl 0 rfl) ?_
  obtain ⟨b_45, e_46, c_47, h⟩ := h
  refine ugf (v := .ref (ad b_45)) G hP h_a0 iRe rfl 4 (by decide) rfl q591 rfl (by show va_rf ((sO s_38 a0 4).map ad) = _; rw [e_46]; rfl) d_Re_addField_50 ?_
  refine ugf (v := .ref (ad (lk b_45 8))) G hP c_47 iWd rfl 8 (by decide) rfl q837 rfl rfl d_Re_addField_53 ?_
  refine lv_iload G.1 G.2.1 d_Re_addField_56 (lv_at hl 1 rfl) ?_
  obtain ⟨mc_53, ms_54, hr_55, h⟩ := h
  refine uaVi (As := [.int v5]) (rest := []) G hP hD hS (ca_In_add l D g [] ad mc_53 ms_54 y_39 _ s_38 (lk b_45 8) v5 H.size (us H) (lk_9_8 c_47) h) w9_In_add q1380 ⟨Nat.le_of_ble_eq_true rfl, Nat.le_of_ble_eq_true rfl⟩ rfl rfl (lk_9_8 c_47) (q := (RIn, TIn, 2)) rfl rfl hl.1 rfl (Nat.le_of_ble_eq_true rfl) rfl hr_55 d_Re_addField_58 (fun r_48 y_50 s_49 d_51 e_52 H locs h hP hD hS => ?_)
  have hl := lv_sub (l' := [(0, .ref (ad a0))]) hl [0] rfl
  obtain ⟨hd, h⟩ := h
  refine lv_pop G.1 G.2.1 d_Re_addField_61 rfl ?_
  refine lv_aload_n G.1 G.2.1 d_Re_addField_62 rfl (lv_at hl 0 rfl) ?_
  obtain ⟨b_56, e_57, c_58, h⟩ := h
  refine ugf (v := .ref (ad b_56)) G hP h_a0 iRe rfl 4 (by decide) rfl q591 rfl (by show va_rf ((sO s_49 a0 4).map ad) = _; rw [e_57]; rfl) d_Re_addField_63 ?_
  refine ugf (v := .ref (ad (lk b_56 8))) G hP c_58 iWd rfl 8 (by decide) rfl q837 rfl rfl d_Re_addField_66 ?_
  refine lv_iconst (v := 0) G.1 G.2.1 d_Re_addField_69 (by decide) ?_
  obtain ⟨mc_64, ms_65, hr_66, h⟩ := h
  refine uaVi (As := [.int 0]) (rest := []) G hP hD hS (ca_In_add l D g [] ad mc_64 ms_65 y_50 _ s_49 (lk b_56 8) 0 H.size (us H) (lk_9_8 c_58) h) w9_In_add q1380 ⟨Nat.le_of_ble_eq_true rfl, Nat.le_of_ble_eq_true rfl⟩ rfl rfl (lk_9_8 c_58) (q := (RIn, TIn, 2)) rfl rfl hl.1 rfl (Nat.le_of_ble_eq_true rfl) rfl hr_66 d_Re_addField_70 (fun r_59 y_61 s_60 d_62 e_63 H locs h hP hD hS => ?_)
  obtain ⟨hd, h⟩ := h
  refine W.eq (g2 := F0 m 73 ls [.int r_59]) rfl ?_
  refine lv_pop G.1 G.2.1 d_Re_addField_73 rfl ?_
  refine lv_aload_n G.1 G.2.1 d_Re_addField_74 rfl (lv_at hl 0 rfl) ?_
  obtain ⟨b_67, e_68, c_69, h⟩ := h
  refine ugf (v := .ref (ad b_67)) G hP h_a0 iRe rfl 4 (by decide) rfl q591 rfl (by show va_rf ((sO s_60 a0 4).map ad) = _; rw [e_68]; rfl) d_Re_addField_75 ?_
  refine ugf (v := .ref (ad (lk b_67 8))) G hP c_69 iWd rfl 8 (by decide) rfl q837 rfl rfl d_Re_addField_78 ?_
  refine lv_iconst (v := 0) G.1 G.2.1 d_Re_addField_81 (by decide) ?_
  obtain ⟨mc_75, ms_76, hr_77, h⟩ := h
  refine uaVi (As := [.int 0]) (rest := []) G hP hD hS (ca_In_add l D g [] ad mc_75 ms_76 y_61 _ s_60 (lk b_67 8) 0 H.size (us H) (lk_9_8 c_69) h) w9_In_add q1380 ⟨Nat.le_of_ble_eq_true rfl, Nat.le_of_ble_eq_true rfl⟩ rfl rfl (lk_9_8 c_69) (q := (RIn, TIn, 2)) rfl rfl hl.1 rfl (Nat.le_of_ble_eq_true rfl) rfl hr_77 d_Re_addField_82 (fun r_70 y_72 s_71 d_73 e_74 H locs h hP hD hS => ?_)
  have hl := lv_sub (l' := []) hl [] rfl
  obtain ⟨hd, h⟩ := h
  refine lv_pop G.1 G.2.1 d_Re_addField_85 rfl ?_
  exact hret (y_72, s_71, 0 + d_7 + d_18 + d_29 + d_40 + d_51 + d_62 + d_73, 0 + e_8 + e_19 + e_30 + e_41 + e_52 + e_63 + e_74) _ _ _ _ _ ls h hP hD hS (Nat.le_refl _) (Nat.le_refl _) hd.1 hd.2 d_Re_addField_86
theorem q1433 : Cond.methodLink "ClassWorks$Reader" 185 y_Wd_fieldWith ∈ lw_ok := lw_okmem (List.mem_of_getElem? (i := 1433) (by decide +kernel)) rfl
theorem q1445 : Cond.methodLink "ClassWorks$Reader" 195 y_Re_addField ∈ lw_ok := lw_okmem (List.mem_of_getElem? (i := 1445) (by decide +kernel)) rfl
theorem q1448 : Cond.code y_Re_addField b_Re_addField 6 (none) ∈ lw_ok := lw_okmem (List.mem_of_getElem? (i := 1448) (by decide +kernel)) rfl
theorem q1447 : Cond.instanceMethod y_Re_addField ∈ lw_ok := lw_okmem (List.mem_of_getElem? (i := 1447) (by decide +kernel)) rfl
theorem q40 : Cond.selects y_Re_addField.cls y_Re_addField y_Re_addField ∈ lw_ok := lw_okmem (List.mem_of_getElem? (i := 40) (by decide +kernel)) rfl
theorem w9_Re_addField : CWv y_Re_addField b_Re_addField 6 (none) 5 ∧ Cond.instanceMethod y_Re_addField ∈ lw_ok ∧ Cond.selects y_Re_addField.cls y_Re_addField y_Re_addField ∈ lw_ok := ⟨⟨q1448, q340, by decide +kernel, by decide +kernel, by decide +kernel⟩, q1447, q40⟩
def y_Re_fieldLine : MethodName := ⟨"ClassWorks$Reader", "fieldLine", "()V"⟩
abbrev b_Re_fieldLine : ByteArray := prog_8_method_16_code
theorem d_Re_fieldLine_0 : decode b_Re_fieldLine 0 = .ok (.aload_n 0, 1) := by decide +kernel
theorem d_Re_fieldLine_1 : decode b_Re_fieldLine 1 = .ok (.iconst 1, 1) := by decide +kernel
theorem d_Re_fieldLine_2 : decode b_Re_fieldLine 2 = .ok (.putfield 27, 3) := by decide +kernel
theorem d_Re_fieldLine_5 : decode b_Re_fieldLine 5 = .ok (.aload_n 0, 1) := by decide +kernel
theorem d_Re_fieldLine_6 : decode b_Re_fieldLine 6 = .ok (.bipush 40, 2) := by decide +kernel
theorem d_Re_fieldLine_8 : decode b_Re_fieldLine 8 = .ok (.bipush 37, 2) := by decide +kernel
theorem d_Re_fieldLine_10 : decode b_Re_fieldLine 10 = .ok (.bipush 41, 2) := by decide +kernel
theorem d_Re_fieldLine_12 : decode b_Re_fieldLine 12 = .ok (.iconst (-1), 1) := by decide +kernel
theorem d_Re_fieldLine_13 : decode b_Re_fieldLine 13 = .ok (.invokevirtual 140, 3) := by decide +kernel
theorem d_Re_fieldLine_16 : decode b_Re_fieldLine 16 = .ok (.istore_n 1, 1) := by decide +kernel
theorem d_Re_fieldLine_17 : decode b_Re_fieldLine 17 = .ok (.aload_n 0, 1) := by decide +kernel
theorem d_Re_fieldLine_18 : decode b_Re_fieldLine 18 = .ok (.bipush 110, 2) := by decide +kernel
theorem d_Re_fieldLine_20 : decode b_Re_fieldLine 20 = .ok (.invokevirtual 147, 3) := by decide +kernel
theorem d_Re_fieldLine_23 : decode b_Re_fieldLine 23 = .ok (.istore_n 2, 1) := by decide +kernel
theorem d_Re_fieldLine_24 : decode b_Re_fieldLine 24 = .ok (.aload_n 0, 1) := by decide +kernel
theorem d_Re_fieldLine_25 : decode b_Re_fieldLine 25 = .ok (.bipush 84, 2) := by decide +kernel
theorem d_Re_fieldLine_27 : decode b_Re_fieldLine 27 = .ok (.invokevirtual 147, 3) := by decide +kernel
theorem d_Re_fieldLine_30 : decode b_Re_fieldLine 30 = .ok (.istore_n 3, 1) := by decide +kernel
theorem d_Re_fieldLine_31 : decode b_Re_fieldLine 31 = .ok (.aload_n 0, 1) := by decide +kernel
theorem d_Re_fieldLine_32 : decode b_Re_fieldLine 32 = .ok (.bipush 61, 2) := by decide +kernel
theorem d_Re_fieldLine_34 : decode b_Re_fieldLine 34 = .ok (.invokevirtual 151, 3) := by decide +kernel
theorem d_Re_fieldLine_37 : decode b_Re_fieldLine 37 = .ok (.istore 4, 2) := by decide +kernel
theorem d_Re_fieldLine_39 : decode b_Re_fieldLine 39 = .ok (.iconst 0, 1) := by decide +kernel
theorem d_Re_fieldLine_40 : decode b_Re_fieldLine 40 = .ok (.istore 5, 2) := by decide +kernel
theorem d_Re_fieldLine_42 : decode b_Re_fieldLine 42 = .ok (.iload 4, 2) := by decide +kernel
theorem d_Re_fieldLine_44 : decode b_Re_fieldLine 44 = .ok (.ifCond .eq 21, 3) := by decide +kernel
theorem d_Re_fieldLine_47 : decode b_Re_fieldLine 47 = .ok (.aload_n 0, 1) := by decide +kernel
theorem d_Re_fieldLine_48 : decode b_Re_fieldLine 48 = .ok (.dup, 1) := by decide +kernel
theorem d_Re_fieldLine_49 : decode b_Re_fieldLine 49 = .ok (.getfield 27, 3) := by decide +kernel
theorem d_Re_fieldLine_52 : decode b_Re_fieldLine 52 = .ok (.iconst 1, 1) := by decide +kernel
theorem d_Re_fieldLine_53 : decode b_Re_fieldLine 53 = .ok (.iadd, 1) := by decide +kernel
theorem d_Re_fieldLine_54 : decode b_Re_fieldLine 54 = .ok (.putfield 27, 3) := by decide +kernel
theorem d_Re_fieldLine_57 : decode b_Re_fieldLine 57 = .ok (.aload_n 0, 1) := by decide +kernel
theorem d_Re_fieldLine_58 : decode b_Re_fieldLine 58 = .ok (.bipush 107, 2) := by decide +kernel
theorem d_Re_fieldLine_60 : decode b_Re_fieldLine 60 = .ok (.invokevirtual 147, 3) := by decide +kernel
theorem d_Re_fieldLine_63 : decode b_Re_fieldLine 63 = .ok (.istore 5, 2) := by decide +kernel
theorem d_Re_fieldLine_65 : decode b_Re_fieldLine 65 = .ok (.aload_n 0, 1) := by decide +kernel
theorem d_Re_fieldLine_66 : decode b_Re_fieldLine 66 = .ok (.bipush 36, 2) := by decide +kernel
theorem d_Re_fieldLine_68 : decode b_Re_fieldLine 68 = .ok (.invokevirtual 147, 3) := by decide +kernel
theorem d_Re_fieldLine_71 : decode b_Re_fieldLine 71 = .ok (.pop, 1) := by decide +kernel
theorem d_Re_fieldLine_72 : decode b_Re_fieldLine 72 = .ok (.aload_n 0, 1) := by decide +kernel
theorem d_Re_fieldLine_73 : decode b_Re_fieldLine 73 = .ok (.iconst 1, 1) := by decide +kernel
theorem d_Re_fieldLine_74 : decode b_Re_fieldLine 74 = .ok (.putfield 21, 3) := by decide +kernel
theorem d_Re_fieldLine_77 : decode b_Re_fieldLine 77 = .ok (.aload_n 0, 1) := by decide +kernel
theorem d_Re_fieldLine_78 : decode b_Re_fieldLine 78 = .ok (.getfield 18, 3) := by decide +kernel
theorem d_Re_fieldLine_81 : decode b_Re_fieldLine 81 = .ok (.ifCond .eq 4, 3) := by decide +kernel
theorem d_Re_fieldLine_84 : decode b_Re_fieldLine 84 = .ok (.return_, 1) := by decide +kernel
theorem d_Re_fieldLine_85 : decode b_Re_fieldLine 85 = .ok (.aload_n 0, 1) := by decide +kernel
theorem d_Re_fieldLine_86 : decode b_Re_fieldLine 86 = .ok (.getfield 72, 3) := by decide +kernel
theorem d_Re_fieldLine_89 : decode b_Re_fieldLine 89 = .ok (.aload_n 0, 1) := by decide +kernel
theorem d_Re_fieldLine_90 : decode b_Re_fieldLine 90 = .ok (.getfield 30, 3) := by decide +kernel
theorem d_Re_fieldLine_93 : decode b_Re_fieldLine 93 = .ok (.iload_n 2, 1) := by decide +kernel
theorem d_Re_fieldLine_94 : decode b_Re_fieldLine 94 = .ok (.iconst (-1), 1) := by decide +kernel
theorem d_Re_fieldLine_95 : decode b_Re_fieldLine 95 = .ok (.invokevirtual 185, 3) := by decide +kernel
theorem d_Re_fieldLine_98 : decode b_Re_fieldLine 98 = .ok (.ifCond .lt 8, 3) := by decide +kernel
theorem d_Re_fieldLine_101 : decode b_Re_fieldLine 101 = .ok (.aload_n 0, 1) := by decide +kernel
theorem d_Re_fieldLine_102 : decode b_Re_fieldLine 102 = .ok (.iconst 3, 1) := by decide +kernel
theorem d_Re_fieldLine_103 : decode b_Re_fieldLine 103 = .ok (.invokevirtual 170, 3) := by decide +kernel
theorem d_Re_fieldLine_106 : decode b_Re_fieldLine 106 = .ok (.aload_n 0, 1) := by decide +kernel
theorem d_Re_fieldLine_107 : decode b_Re_fieldLine 107 = .ok (.getfield 72, 3) := by decide +kernel
theorem d_Re_fieldLine_110 : decode b_Re_fieldLine 110 = .ok (.aload_n 0, 1) := by decide +kernel
theorem d_Re_fieldLine_111 : decode b_Re_fieldLine 111 = .ok (.getfield 30, 3) := by decide +kernel
theorem d_Re_fieldLine_114 : decode b_Re_fieldLine 114 = .ok (.invokevirtual 189, 3) := by decide +kernel
theorem d_Re_fieldLine_117 : decode b_Re_fieldLine 117 = .ok (.ifCond .eq 26, 3) := by decide +kernel
theorem d_Re_fieldLine_120 : decode b_Re_fieldLine 120 = .ok (.iload_n 1, 1) := by decide +kernel
theorem d_Re_fieldLine_121 : decode b_Re_fieldLine 121 = .ok (.iconst 3, 1) := by decide +kernel
theorem d_Re_fieldLine_122 : decode b_Re_fieldLine 122 = .ok (.iand, 1) := by decide +kernel
theorem d_Re_fieldLine_123 : decode b_Re_fieldLine 123 = .ok (.iconst 3, 1) := by decide +kernel
theorem d_Re_fieldLine_124 : decode b_Re_fieldLine 124 = .ok (.if_icmp .eq 19, 3) := by decide +kernel
theorem d_Re_fieldLine_127 : decode b_Re_fieldLine 127 = .ok (.aload_n 0, 1) := by decide +kernel
theorem d_Re_fieldLine_128 : decode b_Re_fieldLine 128 = .ok (.getfield 72, 3) := by decide +kernel
theorem d_Re_fieldLine_131 : decode b_Re_fieldLine 131 = .ok (.iconst 1, 1) := by decide +kernel
theorem d_Re_fieldLine_132 : decode b_Re_fieldLine 132 = .ok (.invokevirtual 173, 3) := by decide +kernel
theorem d_Re_fieldLine_135 : decode b_Re_fieldLine 135 = .ok (.ifCond .eq 8, 3) := by decide +kernel
theorem d_Re_fieldLine_138 : decode b_Re_fieldLine 138 = .ok (.aload_n 0, 1) := by decide +kernel
theorem d_Re_fieldLine_139 : decode b_Re_fieldLine 139 = .ok (.iconst 5, 1) := by decide +kernel
theorem d_Re_fieldLine_140 : decode b_Re_fieldLine 140 = .ok (.invokevirtual 170, 3) := by decide +kernel
theorem d_Re_fieldLine_143 : decode b_Re_fieldLine 143 = .ok (.aload_n 0, 1) := by decide +kernel
theorem d_Re_fieldLine_144 : decode b_Re_fieldLine 144 = .ok (.getfield 72, 3) := by decide +kernel
theorem d_Re_fieldLine_147 : decode b_Re_fieldLine 147 = .ok (.aload_n 0, 1) := by decide +kernel
theorem d_Re_fieldLine_148 : decode b_Re_fieldLine 148 = .ok (.getfield 30, 3) := by decide +kernel
theorem d_Re_fieldLine_151 : decode b_Re_fieldLine 151 = .ok (.bipush 9, 2) := by decide +kernel
theorem d_Re_fieldLine_153 : decode b_Re_fieldLine 153 = .ok (.invokevirtual 192, 3) := by decide +kernel
theorem d_Re_fieldLine_156 : decode b_Re_fieldLine 156 = .ok (.istore 6, 2) := by decide +kernel
theorem d_Re_fieldLine_158 : decode b_Re_fieldLine 158 = .ok (.iload 6, 2) := by decide +kernel
theorem d_Re_fieldLine_160 : decode b_Re_fieldLine 160 = .ok (.bipush 8, 2) := by decide +kernel
theorem d_Re_fieldLine_162 : decode b_Re_fieldLine 162 = .ok (.if_icmp .ne 9, 3) := by decide +kernel
theorem d_Re_fieldLine_165 : decode b_Re_fieldLine 165 = .ok (.aload_n 0, 1) := by decide +kernel
theorem d_Re_fieldLine_166 : decode b_Re_fieldLine 166 = .ok (.bipush 12, 2) := by decide +kernel
theorem d_Re_fieldLine_168 : decode b_Re_fieldLine 168 = .ok (.invokevirtual 170, 3) := by decide +kernel
theorem d_Re_fieldLine_171 : decode b_Re_fieldLine 171 = .ok (.iload 4, 2) := by decide +kernel
theorem d_Re_fieldLine_173 : decode b_Re_fieldLine 173 = .ok (.ifCond .eq 19, 3) := by decide +kernel
theorem d_Re_fieldLine_176 : decode b_Re_fieldLine 176 = .ok (.iload_n 1, 1) := by decide +kernel
theorem d_Re_fieldLine_177 : decode b_Re_fieldLine 177 = .ok (.iconst 1, 1) := by decide +kernel
theorem d_Re_fieldLine_178 : decode b_Re_fieldLine 178 = .ok (.iand, 1) := by decide +kernel
theorem d_Re_fieldLine_179 : decode b_Re_fieldLine 179 = .ok (.ifCond .eq 7, 3) := by decide +kernel
theorem d_Re_fieldLine_182 : decode b_Re_fieldLine 182 = .ok (.iload_n 3, 1) := by decide +kernel
theorem d_Re_fieldLine_183 : decode b_Re_fieldLine 183 = .ok (.ifCond .eq 9, 3) := by decide +kernel
theorem d_Re_fieldLine_186 : decode b_Re_fieldLine 186 = .ok (.aload_n 0, 1) := by decide +kernel
theorem d_Re_fieldLine_187 : decode b_Re_fieldLine 187 = .ok (.bipush 14, 2) := by decide +kernel
theorem d_Re_fieldLine_189 : decode b_Re_fieldLine 189 = .ok (.invokevirtual 170, 3) := by decide +kernel
theorem d_Re_fieldLine_192 : decode b_Re_fieldLine 192 = .ok (.aload_n 0, 1) := by decide +kernel
theorem d_Re_fieldLine_193 : decode b_Re_fieldLine 193 = .ok (.getfield 24, 3) := by decide +kernel
theorem d_Re_fieldLine_196 : decode b_Re_fieldLine 196 = .ok (.ifCond .ne 39, 3) := by decide +kernel
theorem d_Re_fieldLine_199 : decode b_Re_fieldLine 199 = .ok (.aload_n 0, 1) := by decide +kernel
theorem d_Re_fieldLine_200 : decode b_Re_fieldLine 200 = .ok (.iload_n 2, 1) := by decide +kernel
theorem d_Re_fieldLine_201 : decode b_Re_fieldLine 201 = .ok (.iload_n 3, 1) := by decide +kernel
theorem d_Re_fieldLine_202 : decode b_Re_fieldLine 202 = .ok (.iload_n 1, 1) := by decide +kernel
theorem d_Re_fieldLine_203 : decode b_Re_fieldLine 203 = .ok (.iload 4, 2) := by decide +kernel
theorem d_Re_fieldLine_205 : decode b_Re_fieldLine 205 = .ok (.ifCond .eq 7, 3) := by decide +kernel
theorem d_Re_fieldLine_208 : decode b_Re_fieldLine 208 = .ok (.iconst 1, 1) := by decide +kernel
theorem d_Re_fieldLine_209 : decode b_Re_fieldLine 209 = .ok (.goto 4, 3) := by decide +kernel
theorem d_Re_fieldLine_212 : decode b_Re_fieldLine 212 = .ok (.iconst 0, 1) := by decide +kernel
theorem d_Re_fieldLine_213 : decode b_Re_fieldLine 213 = .ok (.iload 5, 2) := by decide +kernel
theorem d_Re_fieldLine_215 : decode b_Re_fieldLine 215 = .ok (.invokevirtual 195, 3) := by decide +kernel
theorem d_Re_fieldLine_218 : decode b_Re_fieldLine 218 = .ok (.aload_n 0, 1) := by decide +kernel
theorem d_Re_fieldLine_219 : decode b_Re_fieldLine 219 = .ok (.getfield 72, 3) := by decide +kernel
theorem d_Re_fieldLine_222 : decode b_Re_fieldLine 222 = .ok (.aload_n 0, 1) := by decide +kernel
theorem d_Re_fieldLine_223 : decode b_Re_fieldLine 223 = .ok (.getfield 30, 3) := by decide +kernel
theorem d_Re_fieldLine_226 : decode b_Re_fieldLine 226 = .ok (.bipush 9, 2) := by decide +kernel
theorem d_Re_fieldLine_228 : decode b_Re_fieldLine 228 = .ok (.iload 6, 2) := by decide +kernel
theorem d_Re_fieldLine_230 : decode b_Re_fieldLine 230 = .ok (.iconst 1, 1) := by decide +kernel
theorem d_Re_fieldLine_231 : decode b_Re_fieldLine 231 = .ok (.iadd, 1) := by decide +kernel
theorem d_Re_fieldLine_232 : decode b_Re_fieldLine 232 = .ok (.invokevirtual 162, 3) := by decide +kernel
theorem d_Re_fieldLine_235 : decode b_Re_fieldLine 235 = .ok (.return_, 1) := by decide +kernel
abbrev ra_Re_fieldLine (mc ms : Nat) : Room := { frames := 6, cells := mc, slots := ms, locals := 446 }
def wja_Re_fieldLine_235 (mc ms : Nat) (Post : Ly → St → Nat → Nat → Prop) (a0 : Nat) (y_j235 : Ly) (s_j235 : St) (d_j235 e_j235 : Nat) : Prop := (d_j235 ≤ mc ∧ e_j235 ≤ ms) ∧ Post y_j235 s_j235 d_j235 e_j235
def wja_Re_fieldLine_213 (mc ms : Nat) (Post : Ly → St → Nat → Nat → Prop) (a0 : Nat) (y_j213 : Ly) (s_j213 : St) (d_j213 e_j213 : Nat) (x5j213 : Int32) (x6j213 : Int32) (z1j213 : Int32) (z2j213 : Int32) (z3j213 : Int32) (z4j213 : Int32) : Prop := (d_j213 ≤ mc ∧ e_j213 ≤ ms) ∧ ∃ mc_33 ms_34 : Nat, (d_j213 + mc_33 ≤ mc ∧ e_j213 + ms_34 ≤ ms) ∧ wa_Re_addField mc_33 ms_34 y_j213 (fun (y_30 : Ly) (s_29 : St) (d_31 e_32 : Nat) => (d_j213 + d_31 ≤ mc ∧ e_j213 + e_32 ≤ ms) ∧ ∃ b_36 : Nat, sO s_29 a0 4 = some b_36 ∧ cl b_36 = 9 ∧ wu_Wd_set y_30 (fun (s_40 : St) => wja_Re_fieldLine_235 mc ms Post a0 y_30 s_40 (d_j213 + d_31) (e_j213 + e_32)) s_29 b_36 (sV s_29 a0 9) 9 (x6j213 + 1)) s_j213 a0 z1j213 z2j213 z3j213 z4j213 x5j213
def wja_Re_fieldLine_192 (mc ms : Nat) (Post : Ly → St → Nat → Nat → Prop) (a0 : Nat) (y_j192 : Ly) (s_j192 : St) (d_j192 e_j192 : Nat) (x1j192 : Int32) (x2j192 : Int32) (x3j192 : Int32) (x4j192 : Int32) (x5j192 : Int32) (x6j192 : Int32) : Prop := (d_j192 ≤ mc ∧ e_j192 ≤ ms) ∧ ((¬ (sV s_j192 a0 7) = 0 → wja_Re_fieldLine_235 mc ms Post a0 y_j192 s_j192 d_j192 e_j192) ∧ ((sV s_j192 a0 7) = 0 → ((x4j192 = 0 → wja_Re_fieldLine_213 mc ms Post a0 y_j192 s_j192 d_j192 e_j192 x5j192 x6j192 x2j192 x3j192 x1j192 0) ∧ (¬ (x4j192 = 0) → wja_Re_fieldLine_213 mc ms Post a0 y_j192 s_j192 d_j192 e_j192 x5j192 x6j192 x2j192 x3j192 x1j192 1))))
def wja_Re_fieldLine_186 (mc ms : Nat) (Post : Ly → St → Nat → Nat → Prop) (a0 : Nat) (y_j186 : Ly) (s_j186 : St) (d_j186 e_j186 : Nat) (x1j186 : Int32) (x2j186 : Int32) (x3j186 : Int32) (x4j186 : Int32) (x5j186 : Int32) (x6j186 : Int32) : Prop := (d_j186 ≤ mc ∧ e_j186 ≤ ms) ∧ wu_Re_note y_j186 (fun (s_42 : St) => wja_Re_fieldLine_192 mc ms Post a0 y_j186 s_42 d_j186 e_j186 x1j186 x2j186 x3j186 x4j186 x5j186 x6j186) s_j186 a0 14
def wja_Re_fieldLine_171 (mc ms : Nat) (Post : Ly → St → Nat → Nat → Prop) (a0 : Nat) (y_j171 : Ly) (s_j171 : St) (d_j171 e_j171 : Nat) (x1j171 : Int32) (x2j171 : Int32) (x3j171 : Int32) (x4j171 : Int32) (x5j171 : Int32) (x6j171 : Int32) : Prop := (d_j171 ≤ mc ∧ e_j171 ≤ ms) ∧ ((x4j171 = 0 → wja_Re_fieldLine_192 mc ms Post a0 y_j171 s_j171 d_j171 e_j171 x1j171 x2j171 x3j171 x4j171 x5j171 x6j171) ∧ (¬ (x4j171 = 0) → (((x1j171 &&& 1) = 0 → wja_Re_fieldLine_186 mc ms Post a0 y_j171 s_j171 d_j171 e_j171 x1j171 x2j171 x3j171 x4j171 x5j171 x6j171) ∧ (¬ ((x1j171 &&& 1) = 0) → ((x3j171 = 0 → wja_Re_fieldLine_192 mc ms Post a0 y_j171 s_j171 d_j171 e_j171 x1j171 x2j171 x3j171 x4j171 x5j171 x6j171) ∧ (¬ (x3j171 = 0) → wja_Re_fieldLine_186 mc ms Post a0 y_j171 s_j171 d_j171 e_j171 x1j171 x2j171 x3j171 x4j171 x5j171 x6j171))))))
def wja_Re_fieldLine_143 (mc ms : Nat) (Post : Ly → St → Nat → Nat → Prop) (a0 : Nat) (y_j143 : Ly) (s_j143 : St) (d_j143 e_j143 : Nat) (x1j143 : Int32) (x2j143 : Int32) (x3j143 : Int32) (x4j143 : Int32) (x5j143 : Int32) : Prop := (d_j143 ≤ mc ∧ e_j143 ≤ ms) ∧ ∃ b_23 : Nat, sO s_j143 a0 4 = some b_23 ∧ cl b_23 = 9 ∧ wu_Wd_of y_j143 (fun (s_27 : St) (r_26 : Int32) => ((¬ r_26 = 8 → wja_Re_fieldLine_171 mc ms Post a0 y_j143 s_27 d_j143 e_j143 x1j143 x2j143 x3j143 x4j143 x5j143 r_26) ∧ (r_26 = 8 → wu_Re_note y_j143 (fun (s_44 : St) => wja_Re_fieldLine_171 mc ms Post a0 y_j143 s_44 d_j143 e_j143 x1j143 x2j143 x3j143 x4j143 x5j143 r_26) s_27 a0 12))) s_j143 b_23 (sV s_j143 a0 9) 9
def wja_Re_fieldLine_106 (mc ms : Nat) (Post : Ly → St → Nat → Nat → Prop) (a0 : Nat) (y_j106 : Ly) (s_j106 : St) (d_j106 e_j106 : Nat) (x1j106 : Int32) (x2j106 : Int32) (x3j106 : Int32) (x4j106 : Int32) (x5j106 : Int32) : Prop := (d_j106 ≤ mc ∧ e_j106 ≤ ms) ∧ ∃ b_18 : Nat, sO s_j106 a0 4 = some b_18 ∧ cl b_18 = 9 ∧ wu_Wd_isFace y_j106 (fun (s_22 : St) (r_21 : Int32) => ((r_21 = 0 → wja_Re_fieldLine_143 mc ms Post a0 y_j106 s_22 d_j106 e_j106 x1j106 x2j106 x3j106 x4j106 x5j106) ∧ (¬ (r_21 = 0) → (((x1j106 &&& 3) = 3 → wja_Re_fieldLine_143 mc ms Post a0 y_j106 s_22 d_j106 e_j106 x1j106 x2j106 x3j106 x4j106 x5j106) ∧ (¬ ((x1j106 &&& 3) = 3) → ∃ b_45 : Nat, sO s_22 a0 4 = some b_45 ∧ cl b_45 = 9 ∧ wu_Wd_asks y_j106 (fun (s_49 : St) (r_48 : Int32) => ((r_48 = 0 → wja_Re_fieldLine_143 mc ms Post a0 y_j106 s_49 d_j106 e_j106 x1j106 x2j106 x3j106 x4j106 x5j106) ∧ (¬ (r_48 = 0) → wu_Re_note y_j106 (fun (s_51 : St) => wja_Re_fieldLine_143 mc ms Post a0 y_j106 s_51 d_j106 e_j106 x1j106 x2j106 x3j106 x4j106 x5j106) s_49 a0 5))) s_22 b_45 1))))) s_j106 b_18 (sV s_j106 a0 9)
def wja_Re_fieldLine_65 (mc ms : Nat) (Post : Ly → St → Nat → Nat → Prop) (a0 : Nat) (y_j65 : Ly) (s_j65 : St) (d_j65 e_j65 : Nat) (x1j65 : Int32) (x2j65 : Int32) (x3j65 : Int32) (x4j65 : Int32) (x5j65 : Int32) : Prop := (d_j65 ≤ mc ∧ e_j65 ≤ ms) ∧ wu_Re_take y_j65 (fun (s_11 : St) (r_10 : Int32) => xP (uV s_11 a0 6 1) (fun s_12 : St => (((sV s_12 a0 5) = 0 → ∃ b_13 : Nat, sO s_12 a0 4 = some b_13 ∧ cl b_13 = 9 ∧ wu_Wd_fieldWith y_j65 (fun (s_17 : St) (r_16 : Int32) => ((r_16 < 0 → wja_Re_fieldLine_106 mc ms Post a0 y_j65 s_17 d_j65 e_j65 x1j65 x2j65 x3j65 x4j65 x5j65) ∧ (¬ (r_16 < 0) → wu_Re_note y_j65 (fun (s_53 : St) => wja_Re_fieldLine_106 mc ms Post a0 y_j65 s_53 d_j65 e_j65 x1j65 x2j65 x3j65 x4j65 x5j65) s_17 a0 3))) s_12 b_13 (sV s_12 a0 9) x2j65 (-1)) ∧ (¬ ((sV s_12 a0 5) = 0) → Post y_j65 s_12 d_j65 e_j65)))) s_j65 a0 36
def wa_Re_fieldLine (mc ms : Nat) (y : Ly) (Post : Ly → St → Nat → Nat → Prop) (σ : St) (a0 : Nat) : Prop := xP (uV σ a0 8 1) (fun s_1 : St => wu_Re_takeFlags y (fun (s_3 : St) (r_2 : Int32) => wu_Re_take y (fun (s_5 : St) (r_4 : Int32) => wu_Re_take y (fun (s_7 : St) (r_6 : Int32) => wu_Re_isSign y (fun (s_9 : St) (r_8 : Int32) => ((r_8 = 0 → wja_Re_fieldLine_65 mc ms Post a0 y s_9 0 0 r_2 r_4 r_6 r_8 0) ∧ (¬ (r_8 = 0) → xP (uV s_9 a0 8 ((sV s_9 a0 8) + 1)) (fun s_54 : St => wu_Re_take y (fun (s_56 : St) (r_55 : Int32) => wja_Re_fieldLine_65 mc ms Post a0 y s_56 0 0 r_2 r_4 r_6 r_8 r_55) s_54 a0 107)))) s_7 a0 61) s_5 a0 84) s_3 a0 110) s_1 a0 40 37 41 (-1))
set_option maxHeartbeats 4000000 in
set_option maxRecDepth 100000 in
theorem ca_Re_fieldLine (l : Launch) (D : va_G) (g : Nat → ClassId) (ad : Nat → Nat) (mc ms : Nat) (y : Ly) (Post : Ly → St → Nat → Nat → Prop) (σ : St) (a0 : Nat) (sz uz : Nat) (h_a0 : cl a0 = 6) (h : wa_Re_fieldLine mc ms y Post σ a0) : Met l y_Re_fieldLine (mw y_Re_fieldLine b_Re_fieldLine 7 (none)) (ra_Re_fieldLine mc ms) (PCu g D [] [.ref (ad a0)] sz uz (ws g ad y σ)) (va_Qv (fun (u : Ly × St × Nat × Nat) => Post u.1 u.2.1 u.2.2.1 u.2.2.2) (QU D (va_A (ws g ad y σ) sz) (fun u => ws g ad u.1 u.2.1) sz uz (fun u => u.2.2.1) (fun u => u.2.2.2)) (va_A (ws g ad y σ) sz)) mc ms (va_A (ws g ad y σ) sz) := by
  refine ofVu (by decide +kernel) (Nat.le_of_ble_eq_true rfl) ?_
  intro p e s m args below meth c A Q ls H locs G hsz hP hD hS hl hret
  subst hsz
  have hl : lv_has ls 7 [(0, .ref (ad a0))] := hl
  have hd : 0 ≤ mc ∧ 0 ≤ ms := ⟨Nat.zero_le _, Nat.zero_le _⟩
  unfold wa_Re_fieldLine at h
  refine lv_aload_n G.1 G.2.1 d_Re_fieldLine_0 rfl (lv_at hl 0 rfl) ?_
  refine lv_iconst (v := 1) G.1 G.2.1 d_Re_fieldLine_1 (by decide) ?_
  refine upf G hP hD hS h 8 putV h_a0 iRe tRe tRe_ok nRe rfl (by decide) rfl q595 rfl rfl fV rfl rfl d_Re_fieldLine_2 (fun s_1 H locs h hP hD hS => ?_)
  refine lv_aload_n G.1 G.2.1 d_Re_fieldLine_5 rfl (lv_at hl 0 rfl) ?_
  refine lv_bipush (v := 40) G.1 G.2.1 d_Re_fieldLine_6 (by decide) ?_
  refine lv_bipush (v := 37) G.1 G.2.1 d_Re_fieldLine_8 (by decide) ?_
  refine lv_bipush (v := 41) G.1 G.2.1 d_Re_fieldLine_10 (by decide) ?_
  refine lv_iconst (v := (-1)) G.1 G.2.1 d_Re_fieldLine_12 (by decide) ?_
  refine ucVi (As := [.int 40, .int 37, .int 41, .int (-1)]) (rest := []) G hP hD hS (cu_Re_takeFlags l D g ad y _ s_1 a0 40 37 41 (-1) H.size h_a0 h) w9_Re_takeFlags q1309 ⟨Nat.le_of_ble_eq_true rfl, Nat.le_of_ble_eq_true rfl⟩ rfl rfl h_a0 (q := (RRe, TRe, 18)) rfl rfl hl.1 rfl (Nat.le_of_ble_eq_true rfl) rfl hd d_Re_fieldLine_13 (fun r_2 s_3 H locs h hP hD hS => ?_)
  refine lv_istore_n (lv' := [(1, .int r_2), (0, .ref (ad a0))]) G.1 G.2.1 d_Re_fieldLine_16 rfl hl (by decide) rfl (fun ls hl => ?_)
  refine lv_aload_n G.1 G.2.1 d_Re_fieldLine_17 rfl (lv_at hl 1 rfl) ?_
  refine W.eq (g2 := F0 m 18 ls [.ref (ad a0)]) rfl ?_
  refine lv_bipush (v := 110) G.1 G.2.1 d_Re_fieldLine_18 (by decide) ?_
  refine ucVi (As := [.int 110]) (rest := []) G hP hD hS (cu_Re_take l D g ad y _ s_3 a0 110 H.size h_a0 h) w9_Re_take q1321 ⟨Nat.le_of_ble_eq_true rfl, Nat.le_of_ble_eq_true rfl⟩ rfl rfl h_a0 (q := (RRe, TRe, 18)) rfl rfl hl.1 rfl (Nat.le_of_ble_eq_true rfl) rfl hd d_Re_fieldLine_20 (fun r_4 s_5 H locs h hP hD hS => ?_)
  refine lv_istore_n (lv' := [(2, .int r_4), (1, .int r_2), (0, .ref (ad a0))]) G.1 G.2.1 d_Re_fieldLine_23 rfl hl (by decide) rfl (fun ls hl => ?_)
  refine lv_aload_n G.1 G.2.1 d_Re_fieldLine_24 rfl (lv_at hl 2 rfl) ?_
  refine lv_bipush (v := 84) G.1 G.2.1 d_Re_fieldLine_25 (by decide) ?_
  refine ucVi (As := [.int 84]) (rest := []) G hP hD hS (cu_Re_take l D g ad y _ s_5 a0 84 H.size h_a0 h) w9_Re_take q1321 ⟨Nat.le_of_ble_eq_true rfl, Nat.le_of_ble_eq_true rfl⟩ rfl rfl h_a0 (q := (RRe, TRe, 18)) rfl rfl hl.1 rfl (Nat.le_of_ble_eq_true rfl) rfl hd d_Re_fieldLine_27 (fun r_6 s_7 H locs h hP hD hS => ?_)
  refine lv_istore_n (lv' := [(3, .int r_6), (2, .int r_4), (1, .int r_2), (0, .ref (ad a0))]) G.1 G.2.1 d_Re_fieldLine_30 rfl hl (by decide) rfl (fun ls hl => ?_)
  refine lv_aload_n G.1 G.2.1 d_Re_fieldLine_31 rfl (lv_at hl 3 rfl) ?_
  refine lv_bipush (v := 61) G.1 G.2.1 d_Re_fieldLine_32 (by decide) ?_
  refine ucVi (As := [.int 61]) (rest := []) G hP hD hS (cu_Re_isSign l D g ad y _ s_7 a0 61 H.size h_a0 h) w9_Re_isSign q1325 ⟨Nat.le_of_ble_eq_true rfl, Nat.le_of_ble_eq_true rfl⟩ rfl rfl h_a0 (q := (RRe, TRe, 18)) rfl rfl hl.1 rfl (Nat.le_of_ble_eq_true rfl) rfl hd d_Re_fieldLine_34 (fun r_8 s_9 H locs h hP hD hS => ?_)
  refine lv_istore (lv' := [(4, .int r_8), (3, .int r_6), (2, .int r_4), (1, .int r_2), (0, .ref (ad a0))]) G.1 G.2.1 d_Re_fieldLine_37 hl (by decide) rfl (fun ls hl => ?_)
  refine lv_iconst (v := 0) G.1 G.2.1 d_Re_fieldLine_39 (by decide) ?_
  refine W.eq (g2 := F0 m 40 ls [.int 0]) rfl ?_
  refine lv_istore (lv' := [(5, .int 0), (4, .int r_8), (3, .int r_6), (2, .int r_4), (1, .int r_2), (0, .ref (ad a0))]) G.1 G.2.1 d_Re_fieldLine_40 hl (by decide) rfl (fun ls hl => ?_)
  refine lv_iload G.1 G.2.1 d_Re_fieldLine_42 (lv_at hl 1 rfl) ?_
  have J_65 : ∀ (y_j65 : Ly) (s_j65 : St) (d_j65 e_j65 : Nat) (x1j65 : Int32) (x2j65 : Int32) (x3j65 : Int32) (x4j65 : Int32) (x5j65 : Int32) (H : Heap) (locs : List Loc), wja_Re_fieldLine_65 mc ms Post a0 y_j65 s_j65 d_j65 e_j65 x1j65 x2j65 x3j65 x4j65 x5j65 → va_P D CL (ws g ad y_j65 s_j65) H → va_D A (ws g ad y_j65 s_j65) → va_S A s.heap H locs → ∀ ls, lv_has ls 7 [(0, .ref (ad a0)), (1, .int x1j65), (2, .int x2j65), (3, .int x3j65), (4, .int x4j65), (5, .int x5j65)] → W p l e (ra_Re_fieldLine mc ms) s m args below meth c H locs d_j65 e_j65 Q (F0 m 65 ls []) := by
    intro y_j65 s_j65 d_j65 e_j65 x1j65 x2j65 x3j65 x4j65 x5j65 H locs h hP hD hS ls hl
    unfold wja_Re_fieldLine_65 at h
    obtain ⟨hd, h⟩ := h
    refine lv_aload_n G.1 G.2.1 d_Re_fieldLine_65 rfl (lv_at hl 0 rfl) ?_
    refine lv_bipush (v := 36) G.1 G.2.1 d_Re_fieldLine_66 (by decide) ?_
    refine ucVi (As := [.int 36]) (rest := []) G hP hD hS (cu_Re_take l D g ad y_j65 _ s_j65 a0 36 H.size h_a0 h) w9_Re_take q1321 ⟨Nat.le_of_ble_eq_true rfl, Nat.le_of_ble_eq_true rfl⟩ rfl rfl h_a0 (q := (RRe, TRe, 18)) rfl rfl hl.1 rfl (Nat.le_of_ble_eq_true rfl) rfl hd d_Re_fieldLine_68 (fun r_10 s_11 H locs h hP hD hS => ?_)
    refine lv_pop G.1 G.2.1 d_Re_fieldLine_71 rfl ?_
    refine lv_aload_n G.1 G.2.1 d_Re_fieldLine_72 rfl (lv_at hl 0 rfl) ?_
    refine lv_iconst (v := 1) G.1 G.2.1 d_Re_fieldLine_73 (by decide) ?_
    refine upf G hP hD hS h 6 putV h_a0 iRe tRe tRe_ok nRe rfl (by decide) rfl q593 rfl rfl fV rfl rfl d_Re_fieldLine_74 (fun s_12 H locs h hP hD hS => ?_)
    refine lv_aload_n G.1 G.2.1 d_Re_fieldLine_77 rfl (lv_at hl 0 rfl) ?_
    refine ugf (v := .int (sV s_12 a0 5)) G hP h_a0 iRe rfl 5 (by decide) rfl q592 rfl rfl d_Re_fieldLine_78 ?_
    refine lv_if_eq (tgt := 85) G.1 G.2.1 d_Re_fieldLine_81 (by decide) (fun c81 => ?_) (fun c81 => ?_)
    · skip
      have h := h.1 c81
      refine lv_aload_n G.1 G.2.1 d_Re_fieldLine_85 rfl (lv_at hl 0 rfl) ?_
      refine W.eq (g2 := F0 m 86 ls [.ref (ad a0)]) rfl ?_
      obtain ⟨b_13, e_14, c_15, h⟩ := h
      refine ugf (v := .ref (ad b_13)) G hP h_a0 iRe rfl 4 (by decide) rfl q591 rfl (by show va_rf ((sO s_12 a0 4).map ad) = _; rw [e_14]; rfl) d_Re_fieldLine_86 ?_
      refine lv_aload_n G.1 G.2.1 d_Re_fieldLine_89 rfl (lv_at hl 0 rfl) ?_
      refine ugf (v := .int (sV s_12 a0 9)) G hP h_a0 iRe rfl 9 (by decide) rfl q596 rfl rfl d_Re_fieldLine_90 ?_
      refine lv_iload_n G.1 G.2.1 d_Re_fieldLine_93 rfl (lv_at hl 2 rfl) ?_
      refine lv_iconst (v := (-1)) G.1 G.2.1 d_Re_fieldLine_94 (by decide) ?_
      refine ucVi (As := [.int (sV s_12 a0 9), .int x2j65, .int (-1)]) (rest := []) G hP hD hS (cu_Wd_fieldWith l D g ad y_j65 _ s_12 b_13 (sV s_12 a0 9) x2j65 (-1) H.size c_15 h) w9_Wd_fieldWith q1433 ⟨Nat.le_of_ble_eq_true rfl, Nat.le_of_ble_eq_true rfl⟩ rfl rfl c_15 (q := (RWd, TWd, 17)) rfl rfl hl.1 rfl (Nat.le_of_ble_eq_true rfl) rfl hd d_Re_fieldLine_95 (fun r_16 s_17 H locs h hP hD hS => ?_)
      have J_106 : ∀ (y_j106 : Ly) (s_j106 : St) (d_j106 e_j106 : Nat) (x1j106 : Int32) (x2j106 : Int32) (x3j106 : Int32) (x4j106 : Int32) (x5j106 : Int32) (H : Heap) (locs : List Loc), wja_Re_fieldLine_106 mc ms Post a0 y_j106 s_j106 d_j106 e_j106 x1j106 x2j106 x3j106 x4j106 x5j106 → va_P D CL (ws g ad y_j106 s_j106) H → va_D A (ws g ad y_j106 s_j106) → va_S A s.heap H locs → ∀ ls, lv_has ls 7 [(0, .ref (ad a0)), (1, .int x1j106), (2, .int x2j106), (3, .int x3j106), (4, .int x4j106), (5, .int x5j106)] → W p l e (ra_Re_fieldLine mc ms) s m args below meth c H locs d_j106 e_j106 Q (F0 m 106 ls []) := by
        intro y_j106 s_j106 d_j106 e_j106 x1j106 x2j106 x3j106 x4j106 x5j106 H locs h hP hD hS ls hl
        unfold wja_Re_fieldLine_106 at h
        obtain ⟨hd, h⟩ := h
        refine lv_aload_n G.1 G.2.1 d_Re_fieldLine_106 rfl (lv_at hl 0 rfl) ?_
        obtain ⟨b_18, e_19, c_20, h⟩ := h
        refine ugf (v := .ref (ad b_18)) G hP h_a0 iRe rfl 4 (by decide) rfl q591 rfl (by show va_rf ((sO s_j106 a0 4).map ad) = _; rw [e_19]; rfl) d_Re_fieldLine_107 ?_
        refine lv_aload_n G.1 G.2.1 d_Re_fieldLine_110 rfl (lv_at hl 0 rfl) ?_
        refine ugf (v := .int (sV s_j106 a0 9)) G hP h_a0 iRe rfl 9 (by decide) rfl q596 rfl rfl d_Re_fieldLine_111 ?_
        refine ucVi (As := [.int (sV s_j106 a0 9)]) (rest := []) G hP hD hS (cu_Wd_isFace l D g ad y_j106 _ s_j106 b_18 (sV s_j106 a0 9) H.size c_20 h) w9_Wd_isFace q1437 ⟨Nat.le_of_ble_eq_true rfl, Nat.le_of_ble_eq_true rfl⟩ rfl rfl c_20 (q := (RWd, TWd, 17)) rfl rfl hl.1 rfl (Nat.le_of_ble_eq_true rfl) rfl hd d_Re_fieldLine_114 (fun r_21 s_22 H locs h hP hD hS => ?_)
        have J_143 : ∀ (y_j143 : Ly) (s_j143 : St) (d_j143 e_j143 : Nat) (x1j143 : Int32) (x2j143 : Int32) (x3j143 : Int32) (x4j143 : Int32) (x5j143 : Int32) (H : Heap) (locs : List Loc), wja_Re_fieldLine_143 mc ms Post a0 y_j143 s_j143 d_j143 e_j143 x1j143 x2j143 x3j143 x4j143 x5j143 → va_P D CL (ws g ad y_j143 s_j143) H → va_D A (ws g ad y_j143 s_j143) → va_S A s.heap H locs → ∀ ls, lv_has ls 7 [(0, .ref (ad a0)), (1, .int x1j143), (2, .int x2j143), (3, .int x3j143), (4, .int x4j143), (5, .int x5j143)] → W p l e (ra_Re_fieldLine mc ms) s m args below meth c H locs d_j143 e_j143 Q (F0 m 143 ls []) := by
          intro y_j143 s_j143 d_j143 e_j143 x1j143 x2j143 x3j143 x4j143 x5j143 H locs h hP hD hS ls hl
          unfold wja_Re_fieldLine_143 at h
          obtain ⟨hd, h⟩ := h
          refine lv_aload_n G.1 G.2.1 d_Re_fieldLine_143 rfl (lv_at hl 0 rfl) ?_
          obtain ⟨b_23, e_24, c_25, h⟩ := h
          refine ugf (v := .ref (ad b_23)) G hP h_a0 iRe rfl 4 (by decide) rfl q591 rfl (by show va_rf ((sO s_j143 a0 4).map ad) = _; rw [e_24]; rfl) d_Re_fieldLine_144 ?_
          refine lv_aload_n G.1 G.2.1 d_Re_fieldLine_147 rfl (lv_at hl 0 rfl) ?_
          refine ugf (v := .int (sV s_j143 a0 9)) G hP h_a0 iRe rfl 9 (by decide) rfl q596 rfl rfl d_Re_fieldLine_148 ?_
          refine lv_bipush (v := 9) G.1 G.2.1 d_Re_fieldLine_151 (by decide) ?_
          refine ucVi (As := [.int (sV s_j143 a0 9), .int 9]) (rest := []) G hP hD hS (cu_Wd_of l D g ad y_j143 _ s_j143 b_23 (sV s_j143 a0 9) 9 H.size c_25 h) w9_Wd_of q1441 ⟨Nat.le_of_ble_eq_true rfl, Nat.le_of_ble_eq_true rfl⟩ rfl rfl c_25 (q := (RWd, TWd, 17)) rfl rfl hl.1 rfl (Nat.le_of_ble_eq_true rfl) rfl hd d_Re_fieldLine_153 (fun r_26 s_27 H locs h hP hD hS => ?_)
          refine lv_istore (lv' := [(6, .int r_26), (0, .ref (ad a0)), (1, .int x1j143), (2, .int x2j143), (3, .int x3j143), (4, .int x4j143), (5, .int x5j143)]) G.1 G.2.1 d_Re_fieldLine_156 hl (by decide) rfl (fun ls hl => ?_)
          refine lv_iload G.1 G.2.1 d_Re_fieldLine_158 (lv_at hl 0 rfl) ?_
          refine lv_bipush (v := 8) G.1 G.2.1 d_Re_fieldLine_160 (by decide) ?_
          have J_171 : ∀ (y_j171 : Ly) (s_j171 : St) (d_j171 e_j171 : Nat) (x1j171 : Int32) (x2j171 : Int32) (x3j171 : Int32) (x4j171 : Int32) (x5j171 : Int32) (x6j171 : Int32) (H : Heap) (locs : List Loc), wja_Re_fieldLine_171 mc ms Post a0 y_j171 s_j171 d_j171 e_j171 x1j171 x2j171 x3j171 x4j171 x5j171 x6j171 → va_P D CL (ws g ad y_j171 s_j171) H → va_D A (ws g ad y_j171 s_j171) → va_S A s.heap H locs → ∀ ls, lv_has ls 7 [(0, .ref (ad a0)), (1, .int x1j171), (2, .int x2j171), (3, .int x3j171), (4, .int x4j171), (5, .int x5j171), (6, .int x6j171)] → W p l e (ra_Re_fieldLine mc ms) s m args below meth c H locs d_j171 e_j171 Q (F0 m 171 ls []) := by
            intro y_j171 s_j171 d_j171 e_j171 x1j171 x2j171 x3j171 x4j171 x5j171 x6j171 H locs h hP hD hS ls hl
            unfold wja_Re_fieldLine_171 at h
            obtain ⟨hd, h⟩ := h
            refine lv_iload G.1 G.2.1 d_Re_fieldLine_171 (lv_at hl 4 rfl) ?_
            have J_192 : ∀ (y_j192 : Ly) (s_j192 : St) (d_j192 e_j192 : Nat) (x1j192 : Int32) (x2j192 : Int32) (x3j192 : Int32) (x4j192 : Int32) (x5j192 : Int32) (x6j192 : Int32) (H : Heap) (locs : List Loc), wja_Re_fieldLine_192 mc ms Post a0 y_j192 s_j192 d_j192 e_j192 x1j192 x2j192 x3j192 x4j192 x5j192 x6j192 → va_P D CL (ws g ad y_j192 s_j192) H → va_D A (ws g ad y_j192 s_j192) → va_S A s.heap H locs → ∀ ls, lv_has ls 7 [(0, .ref (ad a0)), (1, .int x1j192), (2, .int x2j192), (3, .int x3j192), (4, .int x4j192), (5, .int x5j192), (6, .int x6j192)] → W p l e (ra_Re_fieldLine mc ms) s m args below meth c H locs d_j192 e_j192 Q (F0 m 192 ls []) := by
              intro y_j192 s_j192 d_j192 e_j192 x1j192 x2j192 x3j192 x4j192 x5j192 x6j192 H locs h hP hD hS ls hl
              unfold wja_Re_fieldLine_192 at h
              obtain ⟨hd, h⟩ := h
              refine lv_aload_n G.1 G.2.1 d_Re_fieldLine_192 rfl (lv_at hl 0 rfl) ?_
              refine ugf (v := .int (sV s_j192 a0 7)) G hP h_a0 iRe rfl 7 (by decide) rfl q594 rfl rfl d_Re_fieldLine_193 ?_
              have J_235 : ∀ (y_j235 : Ly) (s_j235 : St) (d_j235 e_j235 : Nat) (H : Heap) (locs : List Loc), wja_Re_fieldLine_235 mc ms Post a0 y_j235 s_j235 d_j235 e_j235 → va_P D CL (ws g ad y_j235 s_j235) H → va_D A (ws g ad y_j235 s_j235) → va_S A s.heap H locs → ∀ ls, lv_has ls 7 [] → W p l e (ra_Re_fieldLine mc ms) s m args below meth c H locs d_j235 e_j235 Q (F0 m 235 ls []) := by
                intro y_j235 s_j235 d_j235 e_j235 H locs h hP hD hS ls hl
                unfold wja_Re_fieldLine_235 at h
                obtain ⟨hd, h⟩ := h
                exact hret (y_j235, s_j235, d_j235, e_j235) _ _ _ _ _ ls h hP hD hS (Nat.le_refl _) (Nat.le_refl _) hd.1 hd.2 d_Re_fieldLine_235
              refine lv_if_ne (tgt := 235) G.1 G.2.1 d_Re_fieldLine_196 (by decide) (fun c196 => ?_) (fun c196 => ?_)
              · skip
                have h := h.1 c196
                exact J_235 y_j192 s_j192 d_j192 e_j192 H locs h hP hD hS ls (lv_sub hl [] rfl)
              · skip
                have h := h.2 c196
                refine lv_aload_n G.1 G.2.1 d_Re_fieldLine_199 rfl (lv_at hl 0 rfl) ?_
                refine lv_iload_n G.1 G.2.1 d_Re_fieldLine_200 rfl (lv_at hl 2 rfl) ?_
                refine lv_iload_n G.1 G.2.1 d_Re_fieldLine_201 rfl (lv_at hl 3 rfl) ?_
                refine lv_iload_n G.1 G.2.1 d_Re_fieldLine_202 rfl (lv_at hl 1 rfl) ?_
                refine lv_iload G.1 G.2.1 d_Re_fieldLine_203 (lv_at hl 4 rfl) ?_
                have J_213 : ∀ (y_j213 : Ly) (s_j213 : St) (d_j213 e_j213 : Nat) (x5j213 : Int32) (x6j213 : Int32) (z1j213 : Int32) (z2j213 : Int32) (z3j213 : Int32) (z4j213 : Int32) (H : Heap) (locs : List Loc), wja_Re_fieldLine_213 mc ms Post a0 y_j213 s_j213 d_j213 e_j213 x5j213 x6j213 z1j213 z2j213 z3j213 z4j213 → va_P D CL (ws g ad y_j213 s_j213) H → va_D A (ws g ad y_j213 s_j213) → va_S A s.heap H locs → ∀ ls, lv_has ls 7 [(0, .ref (ad a0)), (5, .int x5j213), (6, .int x6j213)] → W p l e (ra_Re_fieldLine mc ms) s m args below meth c H locs d_j213 e_j213 Q (F0 m 213 ls [.int z4j213, .int z3j213, .int z2j213, .int z1j213, .ref (ad a0)]) := by
                  intro y_j213 s_j213 d_j213 e_j213 x5j213 x6j213 z1j213 z2j213 z3j213 z4j213 H locs h hP hD hS ls hl
                  unfold wja_Re_fieldLine_213 at h
                  obtain ⟨hd, h⟩ := h
                  refine lv_iload G.1 G.2.1 d_Re_fieldLine_213 (lv_at hl 1 rfl) ?_
                  obtain ⟨mc_33, ms_34, hr_35, h⟩ := h
                  refine uaVv (As := [.int z1j213, .int z2j213, .int z3j213, .int z4j213, .int x5j213]) (rest := []) G hP hD hS (ca_Re_addField l D g ad mc_33 ms_34 y_j213 _ s_j213 a0 z1j213 z2j213 z3j213 z4j213 x5j213 H.size (us H) h_a0 h) w9_Re_addField q1445 ⟨Nat.le_of_ble_eq_true rfl, Nat.le_of_ble_eq_true rfl⟩ rfl rfl h_a0 (q := (RRe, TRe, 18)) rfl rfl hl.1 rfl (Nat.le_of_ble_eq_true rfl) rfl hr_35 d_Re_fieldLine_215 (fun y_30 s_29 d_31 e_32 H locs h hP hD hS => ?_)
                  have hl := lv_sub (l' := [(0, .ref (ad a0)), (6, .int x6j213)]) hl [0, 2] rfl
                  obtain ⟨hd, h⟩ := h
                  refine lv_aload_n G.1 G.2.1 d_Re_fieldLine_218 rfl (lv_at hl 0 rfl) ?_
                  obtain ⟨b_36, e_37, c_38, h⟩ := h
                  refine ugf (v := .ref (ad b_36)) G hP h_a0 iRe rfl 4 (by decide) rfl q591 rfl (by show va_rf ((sO s_29 a0 4).map ad) = _; rw [e_37]; rfl) d_Re_fieldLine_219 ?_
                  refine lv_aload_n G.1 G.2.1 d_Re_fieldLine_222 rfl (lv_at hl 0 rfl) ?_
                  refine ugf (v := .int (sV s_29 a0 9)) G hP h_a0 iRe rfl 9 (by decide) rfl q596 rfl rfl d_Re_fieldLine_223 ?_
                  refine lv_bipush (v := 9) G.1 G.2.1 d_Re_fieldLine_226 (by decide) ?_
                  refine lv_iload G.1 G.2.1 d_Re_fieldLine_228 (lv_at hl 1 rfl) ?_
                  refine lv_iconst (v := 1) G.1 G.2.1 d_Re_fieldLine_230 (by decide) ?_
                  refine lv_iadd G.1 G.2.1 d_Re_fieldLine_231 ?_
                  refine ucVv (As := [.int (sV s_29 a0 9), .int 9, .int (x6j213 + 1)]) (rest := []) G hP hD hS (cu_Wd_set l D g ad y_30 _ s_29 b_36 (sV s_29 a0 9) 9 (x6j213 + 1) H.size c_38 h) w9_Wd_set q1347 ⟨Nat.le_of_ble_eq_true rfl, Nat.le_of_ble_eq_true rfl⟩ rfl rfl c_38 (q := (RWd, TWd, 17)) rfl rfl hl.1 rfl (Nat.le_of_ble_eq_true rfl) rfl hd d_Re_fieldLine_232 (fun s_40 H locs h hP hD hS => ?_)
                  exact J_235 y_30 s_40 (d_j213 + d_31) (e_j213 + e_32) H locs h hP hD hS ls (lv_sub hl [] rfl)
                refine lv_if_eq (tgt := 212) G.1 G.2.1 d_Re_fieldLine_205 (by decide) (fun c205 => ?_) (fun c205 => ?_)
                · skip
                  have h := h.1 c205
                  refine lv_iconst (v := 0) G.1 G.2.1 d_Re_fieldLine_212 (by decide) ?_
                  exact J_213 y_j192 s_j192 d_j192 e_j192 x5j192 x6j192 x2j192 x3j192 x1j192 0 H locs h hP hD hS ls (lv_sub hl [0, 5, 6] rfl)
                · skip
                  have h := h.2 c205
                  refine lv_iconst (v := 1) G.1 G.2.1 d_Re_fieldLine_208 (by decide) ?_
                  refine lv_goto (tgt := 213) G.1 G.2.1 d_Re_fieldLine_209 (by decide) ?_
                  exact J_213 y_j192 s_j192 d_j192 e_j192 x5j192 x6j192 x2j192 x3j192 x1j192 1 H locs h hP hD hS ls (lv_sub hl [0, 5, 6] rfl)
            refine lv_if_eq (tgt := 192) G.1 G.2.1 d_Re_fieldLine_173 (by decide) (fun c173 => ?_) (fun c173 => ?_)
            · skip
              have h := h.1 c173
              exact J_192 y_j171 s_j171 d_j171 e_j171 x1j171 x2j171 x3j171 x4j171 x5j171 x6j171 H locs h hP hD hS ls (lv_sub hl [0, 1, 2, 3, 4, 5, 6] rfl)
            · skip
              have h := h.2 c173
              refine lv_iload_n G.1 G.2.1 d_Re_fieldLine_176 rfl (lv_at hl 1 rfl) ?_
              refine lv_iconst (v := 1) G.1 G.2.1 d_Re_fieldLine_177 (by decide) ?_
              refine lv_iand G.1 G.2.1 d_Re_fieldLine_178 ?_
              have J_186 : ∀ (y_j186 : Ly) (s_j186 : St) (d_j186 e_j186 : Nat) (x1j186 : Int32) (x2j186 : Int32) (x3j186 : Int32) (x4j186 : Int32) (x5j186 : Int32) (x6j186 : Int32) (H : Heap) (locs : List Loc), wja_Re_fieldLine_186 mc ms Post a0 y_j186 s_j186 d_j186 e_j186 x1j186 x2j186 x3j186 x4j186 x5j186 x6j186 → va_P D CL (ws g ad y_j186 s_j186) H → va_D A (ws g ad y_j186 s_j186) → va_S A s.heap H locs → ∀ ls, lv_has ls 7 [(0, .ref (ad a0)), (1, .int x1j186), (2, .int x2j186), (3, .int x3j186), (4, .int x4j186), (5, .int x5j186), (6, .int x6j186)] → W p l e (ra_Re_fieldLine mc ms) s m args below meth c H locs d_j186 e_j186 Q (F0 m 186 ls []) := by
                intro y_j186 s_j186 d_j186 e_j186 x1j186 x2j186 x3j186 x4j186 x5j186 x6j186 H locs h hP hD hS ls hl
                unfold wja_Re_fieldLine_186 at h
                obtain ⟨hd, h⟩ := h
                refine lv_aload_n G.1 G.2.1 d_Re_fieldLine_186 rfl (lv_at hl 0 rfl) ?_
                refine lv_bipush (v := 14) G.1 G.2.1 d_Re_fieldLine_187 (by decide) ?_
                refine ucVv (As := [.int 14]) (rest := []) G hP hD hS (cu_Re_note l D g ad y_j186 _ s_j186 a0 14 H.size h_a0 h) w9_Re_note q1337 ⟨Nat.le_of_ble_eq_true rfl, Nat.le_of_ble_eq_true rfl⟩ rfl rfl h_a0 (q := (RRe, TRe, 18)) rfl rfl hl.1 rfl (Nat.le_of_ble_eq_true rfl) rfl hd d_Re_fieldLine_189 (fun s_42 H locs h hP hD hS => ?_)
                exact J_192 y_j186 s_42 d_j186 e_j186 x1j186 x2j186 x3j186 x4j186 x5j186 x6j186 H locs h hP hD hS ls (lv_sub hl [0, 1, 2, 3, 4, 5, 6] rfl)
              refine lv_if_eq (tgt := 186) G.1 G.2.1 d_Re_fieldLine_179 (by decide) (fun c179 => ?_) (fun c179 => ?_)
              · skip
                have h := h.1 c179
                exact J_186 y_j171 s_j171 d_j171 e_j171 x1j171 x2j171 x3j171 x4j171 x5j171 x6j171 H locs h hP hD hS ls (lv_sub hl [0, 1, 2, 3, 4, 5, 6] rfl)
              · skip
                have h := h.2 c179
                refine lv_iload_n G.1 G.2.1 d_Re_fieldLine_182 rfl (lv_at hl 3 rfl) ?_
                refine lv_if_eq (tgt := 192) G.1 G.2.1 d_Re_fieldLine_183 (by decide) (fun c183 => ?_) (fun c183 => ?_)
                · skip
                  have h := h.1 c183
                  exact J_192 y_j171 s_j171 d_j171 e_j171 x1j171 x2j171 x3j171 x4j171 x5j171 x6j171 H locs h hP hD hS ls (lv_sub hl [0, 1, 2, 3, 4, 5, 6] rfl)
                · skip
                  have h := h.2 c183
                  exact J_186 y_j171 s_j171 d_j171 e_j171 x1j171 x2j171 x3j171 x4j171 x5j171 x6j171 H locs h hP hD hS ls (lv_sub hl [0, 1, 2, 3, 4, 5, 6] rfl)
          refine lv_icmp_ne (tgt := 171) G.1 G.2.1 d_Re_fieldLine_162 (by decide) (fun c162 => ?_) (fun c162 => ?_)
          · skip
            have h := h.1 c162
            exact J_171 y_j143 s_27 d_j143 e_j143 x1j143 x2j143 x3j143 x4j143 x5j143 r_26 H locs h hP hD hS ls (lv_sub hl [1, 2, 3, 4, 5, 6, 0] rfl)
          · skip
            have h := h.2 c162
            refine lv_aload_n G.1 G.2.1 d_Re_fieldLine_165 rfl (lv_at hl 1 rfl) ?_
            refine W.eq (g2 := F0 m 166 ls [.ref (ad a0)]) rfl ?_
            refine lv_bipush (v := 12) G.1 G.2.1 d_Re_fieldLine_166 (by decide) ?_
            refine ucVv (As := [.int 12]) (rest := []) G hP hD hS (cu_Re_note l D g ad y_j143 _ s_27 a0 12 H.size h_a0 h) w9_Re_note q1337 ⟨Nat.le_of_ble_eq_true rfl, Nat.le_of_ble_eq_true rfl⟩ rfl rfl h_a0 (q := (RRe, TRe, 18)) rfl rfl hl.1 rfl (Nat.le_of_ble_eq_true rfl) rfl hd d_Re_fieldLine_168 (fun s_44 H locs h hP hD hS => ?_)
            exact J_171 y_j143 s_44 d_j143 e_j143 x1j143 x2j143 x3j143 x4j143 x5j143 r_26 H locs h hP hD hS ls (lv_sub hl [1, 2, 3, 4, 5, 6, 0] rfl)
        refine lv_if_eq (tgt := 143) G.1 G.2.1 d_Re_fieldLine_117 (by decide) (fun c117 => ?_) (fun c117 => ?_)
        · skip
          have h := h.1 c117
          exact J_143 y_j106 s_22 d_j106 e_j106 x1j106 x2j106 x3j106 x4j106 x5j106 H locs h hP hD hS ls (lv_sub hl [0, 1, 2, 3, 4, 5] rfl)
        · skip
          have h := h.2 c117
          refine lv_iload_n G.1 G.2.1 d_Re_fieldLine_120 rfl (lv_at hl 1 rfl) ?_
          refine lv_iconst (v := 3) G.1 G.2.1 d_Re_fieldLine_121 (by decide) ?_
          refine lv_iand G.1 G.2.1 d_Re_fieldLine_122 ?_
          refine lv_iconst (v := 3) G.1 G.2.1 d_Re_fieldLine_123 (by decide) ?_
          refine lv_icmp_eq (tgt := 143) G.1 G.2.1 d_Re_fieldLine_124 (by decide) (fun c124 => ?_) (fun c124 => ?_)
          · skip
            have h := h.1 c124
            exact J_143 y_j106 s_22 d_j106 e_j106 x1j106 x2j106 x3j106 x4j106 x5j106 H locs h hP hD hS ls (lv_sub hl [0, 1, 2, 3, 4, 5] rfl)
          · skip
            have h := h.2 c124
            refine W.eq (g2 := F0 m 127 ls []) rfl ?_
            refine lv_aload_n G.1 G.2.1 d_Re_fieldLine_127 rfl (lv_at hl 0 rfl) ?_
            obtain ⟨b_45, e_46, c_47, h⟩ := h
            refine ugf (v := .ref (ad b_45)) G hP h_a0 iRe rfl 4 (by decide) rfl q591 rfl (by show va_rf ((sO s_22 a0 4).map ad) = _; rw [e_46]; rfl) d_Re_fieldLine_128 ?_
            refine lv_iconst (v := 1) G.1 G.2.1 d_Re_fieldLine_131 (by decide) ?_
            refine ucVi (As := [.int 1]) (rest := []) G hP hD hS (cu_Wd_asks l D g ad y_j106 _ s_22 b_45 1 H.size c_47 h) w9_Wd_asks q1342 ⟨Nat.le_of_ble_eq_true rfl, Nat.le_of_ble_eq_true rfl⟩ rfl rfl c_47 (q := (RWd, TWd, 17)) rfl rfl hl.1 rfl (Nat.le_of_ble_eq_true rfl) rfl hd d_Re_fieldLine_132 (fun r_48 s_49 H locs h hP hD hS => ?_)
            refine lv_if_eq (tgt := 143) G.1 G.2.1 d_Re_fieldLine_135 (by decide) (fun c135 => ?_) (fun c135 => ?_)
            · skip
              have h := h.1 c135
              exact J_143 y_j106 s_49 d_j106 e_j106 x1j106 x2j106 x3j106 x4j106 x5j106 H locs h hP hD hS ls (lv_sub hl [0, 1, 2, 3, 4, 5] rfl)
            · skip
              have h := h.2 c135
              refine lv_aload_n G.1 G.2.1 d_Re_fieldLine_138 rfl (lv_at hl 0 rfl) ?_
              refine lv_iconst (v := 5) G.1 G.2.1 d_Re_fieldLine_139 (by decide) ?_
              refine ucVv (As := [.int 5]) (rest := []) G hP hD hS (cu_Re_note l D g ad y_j106 _ s_49 a0 5 H.size h_a0 h) w9_Re_note q1337 ⟨Nat.le_of_ble_eq_true rfl, Nat.le_of_ble_eq_true rfl⟩ rfl rfl h_a0 (q := (RRe, TRe, 18)) rfl rfl hl.1 rfl (Nat.le_of_ble_eq_true rfl) rfl hd d_Re_fieldLine_140 (fun s_51 H locs h hP hD hS => ?_)
              exact J_143 y_j106 s_51 d_j106 e_j106 x1j106 x2j106 x3j106 x4j106 x5j106 H locs h hP hD hS ls (lv_sub hl [0, 1, 2, 3, 4, 5] rfl)
      refine lv_if_lt (tgt := 106) G.1 G.2.1 d_Re_fieldLine_98 (by decide) (fun c98 => ?_) (fun c98 => ?_)
      · skip
        have h := h.1 c98
        exact J_106 y_j65 s_17 d_j65 e_j65 x1j65 x2j65 x3j65 x4j65 x5j65 H locs h hP hD hS ls (lv_sub hl [0, 1, 2, 3, 4, 5] rfl)
      · skip
        have h := h.2 c98
        refine lv_aload_n G.1 G.2.1 d_Re_fieldLine_101 rfl (lv_at hl 0 rfl) ?_
        refine lv_iconst (v := 3) G.1 G.2.1 d_Re_fieldLine_102 (by decide) ?_
        refine ucVv (As := [.int 3]) (rest := []) G hP hD hS (cu_Re_note l D g ad y_j65 _ s_17 a0 3 H.size h_a0 h) w9_Re_note q1337 ⟨Nat.le_of_ble_eq_true rfl, Nat.le_of_ble_eq_true rfl⟩ rfl rfl h_a0 (q := (RRe, TRe, 18)) rfl rfl hl.1 rfl (Nat.le_of_ble_eq_true rfl) rfl hd d_Re_fieldLine_103 (fun s_53 H locs h hP hD hS => ?_)
        exact J_106 y_j65 s_53 d_j65 e_j65 x1j65 x2j65 x3j65 x4j65 x5j65 H locs h hP hD hS ls (lv_sub hl [0, 1, 2, 3, 4, 5] rfl)
    · skip
      have h := h.2 c81
      exact hret (y_j65, s_12, d_j65, e_j65) _ _ _ _ _ ls h hP hD hS (Nat.le_refl _) (Nat.le_refl _) hd.1 hd.2 d_Re_fieldLine_84
  refine lv_if_eq (tgt := 65) G.1 G.2.1 d_Re_fieldLine_44 (by decide) (fun c44 => ?_) (fun c44 => ?_)
  · skip
    have h := h.1 c44
    exact J_65 y s_9 0 0 r_2 r_4 r_6 r_8 0 H locs h hP hD hS ls (lv_sub hl [5, 4, 3, 2, 1, 0] rfl)
  · skip
    have h := h.2 c44
    refine lv_aload_n G.1 G.2.1 d_Re_fieldLine_47 rfl (lv_at hl 5 rfl) ?_
    refine lv_dup G.1 G.2.1 d_Re_fieldLine_48 rfl ?_
    refine ugf (v := .int (sV s_9 a0 8)) G hP h_a0 iRe rfl 8 (by decide) rfl q595 rfl rfl d_Re_fieldLine_49 ?_
    refine lv_iconst (v := 1) G.1 G.2.1 d_Re_fieldLine_52 (by decide) ?_
    refine lv_iadd G.1 G.2.1 d_Re_fieldLine_53 ?_
    refine upf G hP hD hS h 8 putV h_a0 iRe tRe tRe_ok nRe rfl (by decide) rfl q595 rfl rfl fV rfl rfl d_Re_fieldLine_54 (fun s_54 H locs h hP hD hS => ?_)
    refine lv_aload_n G.1 G.2.1 d_Re_fieldLine_57 rfl (lv_at hl 5 rfl) ?_
    refine lv_bipush (v := 107) G.1 G.2.1 d_Re_fieldLine_58 (by decide) ?_
    refine ucVi (As := [.int 107]) (rest := []) G hP hD hS (cu_Re_take l D g ad y _ s_54 a0 107 H.size h_a0 h) w9_Re_take q1321 ⟨Nat.le_of_ble_eq_true rfl, Nat.le_of_ble_eq_true rfl⟩ rfl rfl h_a0 (q := (RRe, TRe, 18)) rfl rfl hl.1 rfl (Nat.le_of_ble_eq_true rfl) rfl hd d_Re_fieldLine_60 (fun r_55 s_56 H locs h hP hD hS => ?_)
    refine W.eq (g2 := F0 m 63 ls [.int r_55]) rfl ?_
    refine lv_istore (lv' := [(5, .int r_55), (4, .int r_8), (3, .int r_6), (2, .int r_4), (1, .int r_2), (0, .ref (ad a0))]) G.1 G.2.1 d_Re_fieldLine_63 hl (by decide) rfl (fun ls hl => ?_)
    exact J_65 y s_56 0 0 r_2 r_4 r_6 r_8 r_55 H locs h hP hD hS ls (lv_sub hl [5, 4, 3, 2, 1, 0] rfl)
def y_Re_addMethod : MethodName := ⟨"ClassWorks$Reader", "addMethod", "(II)V"⟩
abbrev b_Re_addMethod : ByteArray := prog_8_method_21_code
theorem d_Re_addMethod_0 : decode b_Re_addMethod 0 = .ok (.aload_n 0, 1) := by decide +kernel
theorem d_Re_addMethod_1 : decode b_Re_addMethod 1 = .ok (.aload_n 0, 1) := by decide +kernel
theorem d_Re_addMethod_2 : decode b_Re_addMethod 2 = .ok (.getfield 72, 3) := by decide +kernel
theorem d_Re_addMethod_5 : decode b_Re_addMethod 5 = .ok (.getfield 224, 3) := by decide +kernel
theorem d_Re_addMethod_8 : decode b_Re_addMethod 8 = .ok (.iload_n 1, 1) := by decide +kernel
theorem d_Re_addMethod_9 : decode b_Re_addMethod 9 = .ok (.invokevirtual 202, 3) := by decide +kernel
theorem d_Re_addMethod_12 : decode b_Re_addMethod 12 = .ok (.putfield 33, 3) := by decide +kernel
theorem d_Re_addMethod_15 : decode b_Re_addMethod 15 = .ok (.aload_n 0, 1) := by decide +kernel
theorem d_Re_addMethod_16 : decode b_Re_addMethod 16 = .ok (.getfield 72, 3) := by decide +kernel
theorem d_Re_addMethod_19 : decode b_Re_addMethod 19 = .ok (.getfield 224, 3) := by decide +kernel
theorem d_Re_addMethod_22 : decode b_Re_addMethod 22 = .ok (.iload_n 2, 1) := by decide +kernel
theorem d_Re_addMethod_23 : decode b_Re_addMethod 23 = .ok (.invokevirtual 202, 3) := by decide +kernel
theorem d_Re_addMethod_26 : decode b_Re_addMethod 26 = .ok (.pop, 1) := by decide +kernel
theorem d_Re_addMethod_27 : decode b_Re_addMethod 27 = .ok (.aload_n 0, 1) := by decide +kernel
theorem d_Re_addMethod_28 : decode b_Re_addMethod 28 = .ok (.getfield 72, 3) := by decide +kernel
theorem d_Re_addMethod_31 : decode b_Re_addMethod 31 = .ok (.getfield 224, 3) := by decide +kernel
theorem d_Re_addMethod_34 : decode b_Re_addMethod 34 = .ok (.iconst 0, 1) := by decide +kernel
theorem d_Re_addMethod_35 : decode b_Re_addMethod 35 = .ok (.invokevirtual 202, 3) := by decide +kernel
theorem d_Re_addMethod_38 : decode b_Re_addMethod 38 = .ok (.pop, 1) := by decide +kernel
theorem d_Re_addMethod_39 : decode b_Re_addMethod 39 = .ok (.aload_n 0, 1) := by decide +kernel
theorem d_Re_addMethod_40 : decode b_Re_addMethod 40 = .ok (.getfield 72, 3) := by decide +kernel
theorem d_Re_addMethod_43 : decode b_Re_addMethod 43 = .ok (.getfield 224, 3) := by decide +kernel
theorem d_Re_addMethod_46 : decode b_Re_addMethod 46 = .ok (.iconst 0, 1) := by decide +kernel
theorem d_Re_addMethod_47 : decode b_Re_addMethod 47 = .ok (.invokevirtual 202, 3) := by decide +kernel
theorem d_Re_addMethod_50 : decode b_Re_addMethod 50 = .ok (.pop, 1) := by decide +kernel
theorem d_Re_addMethod_51 : decode b_Re_addMethod 51 = .ok (.aload_n 0, 1) := by decide +kernel
theorem d_Re_addMethod_52 : decode b_Re_addMethod 52 = .ok (.getfield 72, 3) := by decide +kernel
theorem d_Re_addMethod_55 : decode b_Re_addMethod 55 = .ok (.getfield 224, 3) := by decide +kernel
theorem d_Re_addMethod_58 : decode b_Re_addMethod 58 = .ok (.aload_n 0, 1) := by decide +kernel
theorem d_Re_addMethod_59 : decode b_Re_addMethod 59 = .ok (.getfield 72, 3) := by decide +kernel
theorem d_Re_addMethod_62 : decode b_Re_addMethod 62 = .ok (.getfield 227, 3) := by decide +kernel
theorem d_Re_addMethod_65 : decode b_Re_addMethod 65 = .ok (.getfield 230, 3) := by decide +kernel
theorem d_Re_addMethod_68 : decode b_Re_addMethod 68 = .ok (.invokevirtual 202, 3) := by decide +kernel
theorem d_Re_addMethod_71 : decode b_Re_addMethod 71 = .ok (.pop, 1) := by decide +kernel
theorem d_Re_addMethod_72 : decode b_Re_addMethod 72 = .ok (.aload_n 0, 1) := by decide +kernel
theorem d_Re_addMethod_73 : decode b_Re_addMethod 73 = .ok (.getfield 72, 3) := by decide +kernel
theorem d_Re_addMethod_76 : decode b_Re_addMethod 76 = .ok (.getfield 224, 3) := by decide +kernel
theorem d_Re_addMethod_79 : decode b_Re_addMethod 79 = .ok (.iconst 0, 1) := by decide +kernel
theorem d_Re_addMethod_80 : decode b_Re_addMethod 80 = .ok (.invokevirtual 202, 3) := by decide +kernel
theorem d_Re_addMethod_83 : decode b_Re_addMethod 83 = .ok (.pop, 1) := by decide +kernel
theorem d_Re_addMethod_84 : decode b_Re_addMethod 84 = .ok (.aload_n 0, 1) := by decide +kernel
theorem d_Re_addMethod_85 : decode b_Re_addMethod 85 = .ok (.getfield 72, 3) := by decide +kernel
theorem d_Re_addMethod_88 : decode b_Re_addMethod 88 = .ok (.getfield 224, 3) := by decide +kernel
theorem d_Re_addMethod_91 : decode b_Re_addMethod 91 = .ok (.aload_n 0, 1) := by decide +kernel
theorem d_Re_addMethod_92 : decode b_Re_addMethod 92 = .ok (.getfield 72, 3) := by decide +kernel
theorem d_Re_addMethod_95 : decode b_Re_addMethod 95 = .ok (.getfield 233, 3) := by decide +kernel
theorem d_Re_addMethod_98 : decode b_Re_addMethod 98 = .ok (.getfield 230, 3) := by decide +kernel
theorem d_Re_addMethod_101 : decode b_Re_addMethod 101 = .ok (.invokevirtual 202, 3) := by decide +kernel
theorem d_Re_addMethod_104 : decode b_Re_addMethod 104 = .ok (.pop, 1) := by decide +kernel
theorem d_Re_addMethod_105 : decode b_Re_addMethod 105 = .ok (.aload_n 0, 1) := by decide +kernel
theorem d_Re_addMethod_106 : decode b_Re_addMethod 106 = .ok (.getfield 72, 3) := by decide +kernel
theorem d_Re_addMethod_109 : decode b_Re_addMethod 109 = .ok (.getfield 224, 3) := by decide +kernel
theorem d_Re_addMethod_112 : decode b_Re_addMethod 112 = .ok (.iconst 0, 1) := by decide +kernel
theorem d_Re_addMethod_113 : decode b_Re_addMethod 113 = .ok (.invokevirtual 202, 3) := by decide +kernel
theorem d_Re_addMethod_116 : decode b_Re_addMethod 116 = .ok (.pop, 1) := by decide +kernel
theorem d_Re_addMethod_117 : decode b_Re_addMethod 117 = .ok (.aload_n 0, 1) := by decide +kernel
theorem d_Re_addMethod_118 : decode b_Re_addMethod 118 = .ok (.getfield 48, 3) := by decide +kernel
theorem d_Re_addMethod_121 : decode b_Re_addMethod 121 = .ok (.iconst 0, 1) := by decide +kernel
theorem d_Re_addMethod_122 : decode b_Re_addMethod 122 = .ok (.putfield 230, 3) := by decide +kernel
theorem d_Re_addMethod_125 : decode b_Re_addMethod 125 = .ok (.aload_n 0, 1) := by decide +kernel
theorem d_Re_addMethod_126 : decode b_Re_addMethod 126 = .ok (.getfield 52, 3) := by decide +kernel
theorem d_Re_addMethod_129 : decode b_Re_addMethod 129 = .ok (.iconst 0, 1) := by decide +kernel
theorem d_Re_addMethod_130 : decode b_Re_addMethod 130 = .ok (.putfield 230, 3) := by decide +kernel
theorem d_Re_addMethod_133 : decode b_Re_addMethod 133 = .ok (.aload_n 0, 1) := by decide +kernel
theorem d_Re_addMethod_134 : decode b_Re_addMethod 134 = .ok (.iconst (-1), 1) := by decide +kernel
theorem d_Re_addMethod_135 : decode b_Re_addMethod 135 = .ok (.putfield 55, 3) := by decide +kernel
theorem d_Re_addMethod_138 : decode b_Re_addMethod 138 = .ok (.aload_n 0, 1) := by decide +kernel
theorem d_Re_addMethod_139 : decode b_Re_addMethod 139 = .ok (.iconst (-1), 1) := by decide +kernel
theorem d_Re_addMethod_140 : decode b_Re_addMethod 140 = .ok (.putfield 58, 3) := by decide +kernel
theorem d_Re_addMethod_143 : decode b_Re_addMethod 143 = .ok (.return_, 1) := by decide +kernel
abbrev ra_Re_addMethod (mc ms : Nat) : Room := { frames := 5, cells := mc, slots := ms, locals := 421 }
def wa_Re_addMethod (mc ms : Nat) (y : Ly) (Post : Ly → St → Nat → Nat → Prop) (σ : St) (a0 : Nat) (v1 : Int32) (v2 : Int32) : Prop := ∃ b_1 : Nat, sO σ a0 4 = some b_1 ∧ cl b_1 = 9 ∧ ∃ mc_9 ms_10 : Nat, (0 + mc_9 ≤ mc ∧ 0 + ms_10 ≤ ms) ∧ wa_In_add mc_9 ms_10 y (fun (y_6 : Ly) (s_5 : St) (r_4 : Int32) (d_7 e_8 : Nat) => (0 + d_7 ≤ mc ∧ 0 + e_8 ≤ ms) ∧ xP (uV s_5 a0 10 r_4) (fun s_12 : St => ∃ b_13 : Nat, sO s_12 a0 4 = some b_13 ∧ cl b_13 = 9 ∧ ∃ mc_21 ms_22 : Nat, (0 + d_7 + mc_21 ≤ mc ∧ 0 + e_8 + ms_22 ≤ ms) ∧ wa_In_add mc_21 ms_22 y_6 (fun (y_18 : Ly) (s_17 : St) (r_16 : Int32) (d_19 e_20 : Nat) => (0 + d_7 + d_19 ≤ mc ∧ 0 + e_8 + e_20 ≤ ms) ∧ ∃ b_24 : Nat, sO s_17 a0 4 = some b_24 ∧ cl b_24 = 9 ∧ ∃ mc_32 ms_33 : Nat, (0 + d_7 + d_19 + mc_32 ≤ mc ∧ 0 + e_8 + e_20 + ms_33 ≤ ms) ∧ wa_In_add mc_32 ms_33 y_18 (fun (y_29 : Ly) (s_28 : St) (r_27 : Int32) (d_30 e_31 : Nat) => (0 + d_7 + d_19 + d_30 ≤ mc ∧ 0 + e_8 + e_20 + e_31 ≤ ms) ∧ ∃ b_35 : Nat, sO s_28 a0 4 = some b_35 ∧ cl b_35 = 9 ∧ ∃ mc_43 ms_44 : Nat, (0 + d_7 + d_19 + d_30 + mc_43 ≤ mc ∧ 0 + e_8 + e_20 + e_31 + ms_44 ≤ ms) ∧ wa_In_add mc_43 ms_44 y_29 (fun (y_40 : Ly) (s_39 : St) (r_38 : Int32) (d_41 e_42 : Nat) => (0 + d_7 + d_19 + d_30 + d_41 ≤ mc ∧ 0 + e_8 + e_20 + e_31 + e_42 ≤ ms) ∧ ∃ b_46 : Nat, sO s_39 a0 4 = some b_46 ∧ cl b_46 = 9 ∧ ∃ b_49 : Nat, sO s_39 a0 4 = some b_49 ∧ cl b_49 = 9 ∧ ∃ mc_57 ms_58 : Nat, (0 + d_7 + d_19 + d_30 + d_41 + mc_57 ≤ mc ∧ 0 + e_8 + e_20 + e_31 + e_42 + ms_58 ≤ ms) ∧ wa_In_add mc_57 ms_58 y_40 (fun (y_54 : Ly) (s_53 : St) (r_52 : Int32) (d_55 e_56 : Nat) => (0 + d_7 + d_19 + d_30 + d_41 + d_55 ≤ mc ∧ 0 + e_8 + e_20 + e_31 + e_42 + e_56 ≤ ms) ∧ ∃ b_60 : Nat, sO s_53 a0 4 = some b_60 ∧ cl b_60 = 9 ∧ ∃ mc_68 ms_69 : Nat, (0 + d_7 + d_19 + d_30 + d_41 + d_55 + mc_68 ≤ mc ∧ 0 + e_8 + e_20 + e_31 + e_42 + e_56 + ms_69 ≤ ms) ∧ wa_In_add mc_68 ms_69 y_54 (fun (y_65 : Ly) (s_64 : St) (r_63 : Int32) (d_66 e_67 : Nat) => (0 + d_7 + d_19 + d_30 + d_41 + d_55 + d_66 ≤ mc ∧ 0 + e_8 + e_20 + e_31 + e_42 + e_56 + e_67 ≤ ms) ∧ ∃ b_71 : Nat, sO s_64 a0 4 = some b_71 ∧ cl b_71 = 9 ∧ ∃ b_74 : Nat, sO s_64 a0 4 = some b_74 ∧ cl b_74 = 9 ∧ ∃ mc_82 ms_83 : Nat, (0 + d_7 + d_19 + d_30 + d_41 + d_55 + d_66 + mc_82 ≤ mc ∧ 0 + e_8 + e_20 + e_31 + e_42 + e_56 + e_67 + ms_83 ≤ ms) ∧ wa_In_add mc_82 ms_83 y_65 (fun (y_79 : Ly) (s_78 : St) (r_77 : Int32) (d_80 e_81 : Nat) => (0 + d_7 + d_19 + d_30 + d_41 + d_55 + d_66 + d_80 ≤ mc ∧ 0 + e_8 + e_20 + e_31 + e_42 + e_56 + e_67 + e_81 ≤ ms) ∧ ∃ b_85 : Nat, sO s_78 a0 4 = some b_85 ∧ cl b_85 = 9 ∧ ∃ mc_93 ms_94 : Nat, (0 + d_7 + d_19 + d_30 + d_41 + d_55 + d_66 + d_80 + mc_93 ≤ mc ∧ 0 + e_8 + e_20 + e_31 + e_42 + e_56 + e_67 + e_81 + ms_94 ≤ ms) ∧ wa_In_add mc_93 ms_94 y_79 (fun (y_90 : Ly) (s_89 : St) (r_88 : Int32) (d_91 e_92 : Nat) => (0 + d_7 + d_19 + d_30 + d_41 + d_55 + d_66 + d_80 + d_91 ≤ mc ∧ 0 + e_8 + e_20 + e_31 + e_42 + e_56 + e_67 + e_81 + e_92 ≤ ms) ∧ xP (uV s_89 (lk a0 13) 1 0) (fun s_96 : St => xP (uV s_96 (lk a0 14) 1 0) (fun s_97 : St => xP (uV s_97 a0 15 (-1)) (fun s_98 : St => xP (uV s_98 a0 16 (-1)) (fun s_99 : St => Post y_90 s_99 (0 + d_7 + d_19 + d_30 + d_41 + d_55 + d_66 + d_80 + d_91) (0 + e_8 + e_20 + e_31 + e_42 + e_56 + e_67 + e_81 + e_92)))))) s_78 (lk b_85 9) 0) s_64 (lk b_71 9) (sV s_64 (lk b_74 11) 1)) s_53 (lk b_60 9) 0) s_39 (lk b_46 9) (sV s_39 (lk b_49 10) 1)) s_28 (lk b_35 9) 0) s_17 (lk b_24 9) 0) s_12 (lk b_13 9) v2)) σ (lk b_1 9) v1
set_option maxHeartbeats 4000000 in
set_option maxRecDepth 100000 in
theorem ca_Re_addMethod (l : Launch) (D : va_G) (g : Nat → ClassId) (ad : Nat → Nat) (mc ms : Nat) (y : Ly) (Post : Ly → St → Nat → Nat → Prop) (σ : St) (a0 : Nat) (v1 : Int32) (v2 : Int32) (sz uz : Nat) (h_a0 : cl a0 = 6) (h : wa_Re_addMethod mc ms y Post σ a0 v1 v2) : Met l y_Re_addMethod (mw y_Re_addMethod b_Re_addMethod 3 (none)) (ra_Re_addMethod mc ms) (PCu g D [] [.ref (ad a0), .int v1, .int v2] sz uz (ws g ad y σ)) (va_Qv (fun (u : Ly × St × Nat × Nat) => Post u.1 u.2.1 u.2.2.1 u.2.2.2) (QU D (va_A (ws g ad y σ) sz) (fun u => ws g ad u.1 u.2.1) sz uz (fun u => u.2.2.1) (fun u => u.2.2.2)) (va_A (ws g ad y σ) sz)) mc ms (va_A (ws g ad y σ) sz) := by
  refine ofVu (by decide +kernel) (Nat.le_of_ble_eq_true rfl) ?_
  intro p e s m args below meth c A Q ls H locs G hsz hP hD hS hl hret
  subst hsz
  have hl : lv_has ls 3 [(0, .ref (ad a0)), (1, .int v1), (2, .int v2)] := hl
  have hd : 0 ≤ mc ∧ 0 ≤ ms := ⟨Nat.zero_le _, Nat.zero_le _⟩
  unfold wa_Re_addMethod at h
  refine lv_aload_n G.1 G.2.1 d_Re_addMethod_0 rfl (lv_at hl 0 rfl) ?_
  refine lv_aload_n G.1 G.2.1 d_Re_addMethod_1 rfl (lv_at hl 0 rfl) ?_
  obtain ⟨b_1, e_2, c_3, h⟩ := h
  refine ugf (v := .ref (ad b_1)) G hP h_a0 iRe rfl 4 (by decide) rfl q591 rfl (by show va_rf ((sO σ a0 4).map ad) = _; rw [e_2]; rfl) d_Re_addMethod_2 ?_
  refine ugf (v := .ref (ad (lk b_1 9))) G hP c_3 iWd rfl 9 (by decide) rfl q840 rfl rfl d_Re_addMethod_5 ?_
  refine lv_iload_n G.1 G.2.1 d_Re_addMethod_8 rfl (lv_at hl 1 rfl) ?_
  obtain ⟨mc_9, ms_10, hr_11, h⟩ := h
  refine uaVi (As := [.int v1]) (rest := [.ref (ad a0)]) G hP hD hS (ca_In_add l D g [] ad mc_9 ms_10 y _ σ (lk b_1 9) v1 H.size (us H) (lk_9_9 c_3) h) w9_In_add q1380 ⟨Nat.le_of_ble_eq_true rfl, Nat.le_of_ble_eq_true rfl⟩ rfl rfl (lk_9_9 c_3) (q := (RIn, TIn, 2)) rfl rfl hl.1 rfl (Nat.le_of_ble_eq_true rfl) rfl hr_11 d_Re_addMethod_9 (fun r_4 y_6 s_5 d_7 e_8 H locs h hP hD hS => ?_)
  have hl := lv_sub (l' := [(0, .ref (ad a0)), (2, .int v2)]) hl [0, 2] rfl
  obtain ⟨hd, h⟩ := h
  refine upf G hP hD hS h 10 putV h_a0 iRe tRe tRe_ok nRe rfl (by decide) rfl q597 rfl rfl fV rfl rfl d_Re_addMethod_12 (fun s_12 H locs h hP hD hS => ?_)
  refine lv_aload_n G.1 G.2.1 d_Re_addMethod_15 rfl (lv_at hl 0 rfl) ?_
  obtain ⟨b_13, e_14, c_15, h⟩ := h
  refine ugf (v := .ref (ad b_13)) G hP h_a0 iRe rfl 4 (by decide) rfl q591 rfl (by show va_rf ((sO s_12 a0 4).map ad) = _; rw [e_14]; rfl) d_Re_addMethod_16 ?_
  refine ugf (v := .ref (ad (lk b_13 9))) G hP c_15 iWd rfl 9 (by decide) rfl q840 rfl rfl d_Re_addMethod_19 ?_
  refine lv_iload_n G.1 G.2.1 d_Re_addMethod_22 rfl (lv_at hl 1 rfl) ?_
  refine W.eq (g2 := F0 m 23 ls [.int v2, .ref (ad (lk b_13 9))]) rfl ?_
  obtain ⟨mc_21, ms_22, hr_23, h⟩ := h
  refine uaVi (As := [.int v2]) (rest := []) G hP hD hS (ca_In_add l D g [] ad mc_21 ms_22 y_6 _ s_12 (lk b_13 9) v2 H.size (us H) (lk_9_9 c_15) h) w9_In_add q1380 ⟨Nat.le_of_ble_eq_true rfl, Nat.le_of_ble_eq_true rfl⟩ rfl rfl (lk_9_9 c_15) (q := (RIn, TIn, 2)) rfl rfl hl.1 rfl (Nat.le_of_ble_eq_true rfl) rfl hr_23 d_Re_addMethod_23 (fun r_16 y_18 s_17 d_19 e_20 H locs h hP hD hS => ?_)
  have hl := lv_sub (l' := [(0, .ref (ad a0))]) hl [0] rfl
  obtain ⟨hd, h⟩ := h
  refine lv_pop G.1 G.2.1 d_Re_addMethod_26 rfl ?_
  refine lv_aload_n G.1 G.2.1 d_Re_addMethod_27 rfl (lv_at hl 0 rfl) ?_
  obtain ⟨b_24, e_25, c_26, h⟩ := h
  refine ugf (v := .ref (ad b_24)) G hP h_a0 iRe rfl 4 (by decide) rfl q591 rfl (by show va_rf ((sO s_17 a0 4).map ad) = _; rw [e_25]; rfl) d_Re_addMethod_28 ?_
  refine ugf (v := .ref (ad (lk b_24 9))) G hP c_26 iWd rfl 9 (by decide) rfl q840 rfl rfl d_Re_addMethod_31 ?_
  refine lv_iconst (v := 0) G.1 G.2.1 d_Re_addMethod_34 (by decide) ?_
  obtain ⟨mc_32, ms_33, hr_34, h⟩ := h
  refine uaVi (As := [.int 0]) (rest := []) G hP hD hS (ca_In_add l D g [] ad mc_32 ms_33 y_18 _ s_17 (lk b_24 9) 0 H.size (us H) (lk_9_9 c_26) h) w9_In_add q1380 ⟨Nat.le_of_ble_eq_true rfl, Nat.le_of_ble_eq_true rfl⟩ rfl rfl (lk_9_9 c_26) (q := (RIn, TIn, 2)) rfl rfl hl.1 rfl (Nat.le_of_ble_eq_true rfl) rfl hr_34 d_Re_addMethod_35 (fun r_27 y_29 s_28 d_30 e_31 H locs h hP hD hS => ?_)
  obtain ⟨hd, h⟩ := h
  refine lv_pop G.1 G.2.1 d_Re_addMethod_38 rfl ?_
  refine lv_aload_n G.1 G.2.1 d_Re_addMethod_39 rfl (lv_at hl 0 rfl) ?_
  obtain ⟨b_35, e_36, c_37, h⟩ := h
  refine ugf (v := .ref (ad b_35)) G hP h_a0 iRe rfl 4 (by decide) rfl q591 rfl (by show va_rf ((sO s_28 a0 4).map ad) = _; rw [e_36]; rfl) d_Re_addMethod_40 ?_
  refine ugf (v := .ref (ad (lk b_35 9))) G hP c_37 iWd rfl 9 (by decide) rfl q840 rfl rfl d_Re_addMethod_43 ?_
  refine lv_iconst (v := 0) G.1 G.2.1 d_Re_addMethod_46 (by decide) ?_
  refine W.eq (g2 := F0 m 47 ls [.int 0, .ref (ad (lk b_35 9))]) rfl ?_
  obtain ⟨mc_43, ms_44, hr_45, h⟩ := h
  refine uaVi (As := [.int 0]) (rest := []) G hP hD hS (ca_In_add l D g [] ad mc_43 ms_44 y_29 _ s_28 (lk b_35 9) 0 H.size (us H) (lk_9_9 c_37) h) w9_In_add q1380 ⟨Nat.le_of_ble_eq_true rfl, Nat.le_of_ble_eq_true rfl⟩ rfl rfl (lk_9_9 c_37) (q := (RIn, TIn, 2)) rfl rfl hl.1 rfl (Nat.le_of_ble_eq_true rfl) rfl hr_45 d_Re_addMethod_47 (fun r_38 y_40 s_39 d_41 e_42 H locs h hP hD hS => ?_)
  obtain ⟨hd, h⟩ := h
  refine lv_pop G.1 G.2.1 d_Re_addMethod_50 rfl ?_
  refine lv_aload_n G.1 G.2.1 d_Re_addMethod_51 rfl (lv_at hl 0 rfl) ?_
  obtain ⟨b_46, e_47, c_48, h⟩ := h
  refine ugf (v := .ref (ad b_46)) G hP h_a0 iRe rfl 4 (by decide) rfl q591 rfl (by show va_rf ((sO s_39 a0 4).map ad) = _; rw [e_47]; rfl) d_Re_addMethod_52 ?_
  refine ugf (v := .ref (ad (lk b_46 9))) G hP c_48 iWd rfl 9 (by decide) rfl q840 rfl rfl d_Re_addMethod_55 ?_
  refine lv_aload_n G.1 G.2.1 d_Re_addMethod_58 rfl (lv_at hl 0 rfl) ?_
  obtain ⟨b_49, e_50, c_51, h⟩ := h
  refine ugf (v := .ref (ad b_49)) G hP h_a0 iRe rfl 4 (by decide) rfl q591 rfl (by show va_rf ((sO s_39 a0 4).map ad) = _; rw [e_50]; rfl) d_Re_addMethod_59 ?_
  refine ugf (v := .ref (ad (lk b_49 10))) G hP c_51 iWd rfl 10 (by decide) rfl q847 rfl rfl d_Re_addMethod_62 ?_
  refine ugf (v := .int (sV s_39 (lk b_49 10) 1)) G hP (lk_9_10 c_51) iIn rfl 1 (by decide) rfl q396 rfl rfl d_Re_addMethod_65 ?_
  obtain ⟨mc_57, ms_58, hr_59, h⟩ := h
  refine uaVi (As := [.int (sV s_39 (lk b_49 10) 1)]) (rest := []) G hP hD hS (ca_In_add l D g [] ad mc_57 ms_58 y_40 _ s_39 (lk b_46 9) (sV s_39 (lk b_49 10) 1) H.size (us H) (lk_9_9 c_48) h) w9_In_add q1380 ⟨Nat.le_of_ble_eq_true rfl, Nat.le_of_ble_eq_true rfl⟩ rfl rfl (lk_9_9 c_48) (q := (RIn, TIn, 2)) rfl rfl hl.1 rfl (Nat.le_of_ble_eq_true rfl) rfl hr_59 d_Re_addMethod_68 (fun r_52 y_54 s_53 d_55 e_56 H locs h hP hD hS => ?_)
  obtain ⟨hd, h⟩ := h
  refine lv_pop G.1 G.2.1 d_Re_addMethod_71 rfl ?_
  refine lv_aload_n G.1 G.2.1 d_Re_addMethod_72 rfl (lv_at hl 0 rfl) ?_
  refine W.eq (g2 := F0 m 73 ls [.ref (ad a0)]) rfl ?_
  obtain ⟨b_60, e_61, c_62, h⟩ := h
  refine ugf (v := .ref (ad b_60)) G hP h_a0 iRe rfl 4 (by decide) rfl q591 rfl (by show va_rf ((sO s_53 a0 4).map ad) = _; rw [e_61]; rfl) d_Re_addMethod_73 ?_
  refine ugf (v := .ref (ad (lk b_60 9))) G hP c_62 iWd rfl 9 (by decide) rfl q840 rfl rfl d_Re_addMethod_76 ?_
  refine lv_iconst (v := 0) G.1 G.2.1 d_Re_addMethod_79 (by decide) ?_
  obtain ⟨mc_68, ms_69, hr_70, h⟩ := h
  refine uaVi (As := [.int 0]) (rest := []) G hP hD hS (ca_In_add l D g [] ad mc_68 ms_69 y_54 _ s_53 (lk b_60 9) 0 H.size (us H) (lk_9_9 c_62) h) w9_In_add q1380 ⟨Nat.le_of_ble_eq_true rfl, Nat.le_of_ble_eq_true rfl⟩ rfl rfl (lk_9_9 c_62) (q := (RIn, TIn, 2)) rfl rfl hl.1 rfl (Nat.le_of_ble_eq_true rfl) rfl hr_70 d_Re_addMethod_80 (fun r_63 y_65 s_64 d_66 e_67 H locs h hP hD hS => ?_)
  obtain ⟨hd, h⟩ := h
  refine lv_pop G.1 G.2.1 d_Re_addMethod_83 rfl ?_
  refine lv_aload_n G.1 G.2.1 d_Re_addMethod_84 rfl (lv_at hl 0 rfl) ?_
  obtain ⟨b_71, e_72, c_73, h⟩ := h
  refine ugf (v := .ref (ad b_71)) G hP h_a0 iRe rfl 4 (by decide) rfl q591 rfl (by show va_rf ((sO s_64 a0 4).map ad) = _; rw [e_72]; rfl) d_Re_addMethod_85 ?_
  refine ugf (v := .ref (ad (lk b_71 9))) G hP c_73 iWd rfl 9 (by decide) rfl q840 rfl rfl d_Re_addMethod_88 ?_
  refine lv_aload_n G.1 G.2.1 d_Re_addMethod_91 rfl (lv_at hl 0 rfl) ?_
  obtain ⟨b_74, e_75, c_76, h⟩ := h
  refine ugf (v := .ref (ad b_74)) G hP h_a0 iRe rfl 4 (by decide) rfl q591 rfl (by show va_rf ((sO s_64 a0 4).map ad) = _; rw [e_75]; rfl) d_Re_addMethod_92 ?_
  refine ugf (v := .ref (ad (lk b_74 11))) G hP c_76 iWd rfl 11 (by decide) rfl q851 rfl rfl d_Re_addMethod_95 ?_
  refine ugf (v := .int (sV s_64 (lk b_74 11) 1)) G hP (lk_9_11 c_76) iIn rfl 1 (by decide) rfl q396 rfl rfl d_Re_addMethod_98 ?_
  refine W.eq (g2 := F0 m 101 ls [.int (sV s_64 (lk b_74 11) 1), .ref (ad (lk b_71 9))]) rfl ?_
  obtain ⟨mc_82, ms_83, hr_84, h⟩ := h
  refine uaVi (As := [.int (sV s_64 (lk b_74 11) 1)]) (rest := []) G hP hD hS (ca_In_add l D g [] ad mc_82 ms_83 y_65 _ s_64 (lk b_71 9) (sV s_64 (lk b_74 11) 1) H.size (us H) (lk_9_9 c_73) h) w9_In_add q1380 ⟨Nat.le_of_ble_eq_true rfl, Nat.le_of_ble_eq_true rfl⟩ rfl rfl (lk_9_9 c_73) (q := (RIn, TIn, 2)) rfl rfl hl.1 rfl (Nat.le_of_ble_eq_true rfl) rfl hr_84 d_Re_addMethod_101 (fun r_77 y_79 s_78 d_80 e_81 H locs h hP hD hS => ?_)
  obtain ⟨hd, h⟩ := h
  refine lv_pop G.1 G.2.1 d_Re_addMethod_104 rfl ?_
  refine lv_aload_n G.1 G.2.1 d_Re_addMethod_105 rfl (lv_at hl 0 rfl) ?_
  obtain ⟨b_85, e_86, c_87, h⟩ := h
  refine ugf (v := .ref (ad b_85)) G hP h_a0 iRe rfl 4 (by decide) rfl q591 rfl (by show va_rf ((sO s_78 a0 4).map ad) = _; rw [e_86]; rfl) d_Re_addMethod_106 ?_
  refine ugf (v := .ref (ad (lk b_85 9))) G hP c_87 iWd rfl 9 (by decide) rfl q840 rfl rfl d_Re_addMethod_109 ?_
  refine lv_iconst (v := 0) G.1 G.2.1 d_Re_addMethod_112 (by decide) ?_
  obtain ⟨mc_93, ms_94, hr_95, h⟩ := h
  refine uaVi (As := [.int 0]) (rest := []) G hP hD hS (ca_In_add l D g [] ad mc_93 ms_94 y_79 _ s_78 (lk b_85 9) 0 H.size (us H) (lk_9_9 c_87) h) w9_In_add q1380 ⟨Nat.le_of_ble_eq_true rfl, Nat.le_of_ble_eq_true rfl⟩ rfl rfl (lk_9_9 c_87) (q := (RIn, TIn, 2)) rfl rfl hl.1 rfl (Nat.le_of_ble_eq_true rfl) rfl hr_95 d_Re_addMethod_113 (fun r_88 y_90 s_89 d_91 e_92 H locs h hP hD hS => ?_)
  obtain ⟨hd, h⟩ := h
  refine lv_pop G.1 G.2.1 d_Re_addMethod_116 rfl ?_
  refine lv_aload_n G.1 G.2.1 d_Re_addMethod_117 rfl (lv_at hl 0 rfl) ?_
  refine ugf (v := .ref (ad (lk a0 13))) G hP h_a0 iRe rfl 13 (by decide) rfl q600 rfl rfl d_Re_addMethod_118 ?_
  refine lv_iconst (v := 0) G.1 G.2.1 d_Re_addMethod_121 (by decide) ?_
  refine upf G hP hD hS h 1 putV (lk_6_13 h_a0) iIn tIn tIn_ok nIn rfl (by decide) rfl q396 rfl rfl fV rfl rfl d_Re_addMethod_122 (fun s_96 H locs h hP hD hS => ?_)
  refine W.eq (g2 := F0 m 125 ls []) rfl ?_
  refine lv_aload_n G.1 G.2.1 d_Re_addMethod_125 rfl (lv_at hl 0 rfl) ?_
  refine ugf (v := .ref (ad (lk a0 14))) G hP h_a0 iRe rfl 14 (by decide) rfl q601 rfl rfl d_Re_addMethod_126 ?_
  refine lv_iconst (v := 0) G.1 G.2.1 d_Re_addMethod_129 (by decide) ?_
  refine upf G hP hD hS h 1 putV (lk_6_14 h_a0) iIn tIn tIn_ok nIn rfl (by decide) rfl q396 rfl rfl fV rfl rfl d_Re_addMethod_130 (fun s_97 H locs h hP hD hS => ?_)
  refine lv_aload_n G.1 G.2.1 d_Re_addMethod_133 rfl (lv_at hl 0 rfl) ?_
  refine lv_iconst (v := (-1)) G.1 G.2.1 d_Re_addMethod_134 (by decide) ?_
  refine upf G hP hD hS h 15 putV h_a0 iRe tRe tRe_ok nRe rfl (by decide) rfl q602 rfl rfl fV rfl rfl d_Re_addMethod_135 (fun s_98 H locs h hP hD hS => ?_)
  refine lv_aload_n G.1 G.2.1 d_Re_addMethod_138 rfl (lv_at hl 0 rfl) ?_
  refine lv_iconst (v := (-1)) G.1 G.2.1 d_Re_addMethod_139 (by decide) ?_
  refine upf G hP hD hS h 16 putV h_a0 iRe tRe tRe_ok nRe rfl (by decide) rfl q603 rfl rfl fV rfl rfl d_Re_addMethod_140 (fun s_99 H locs h hP hD hS => ?_)
  exact hret (y_90, s_99, 0 + d_7 + d_19 + d_30 + d_41 + d_55 + d_66 + d_80 + d_91, 0 + e_8 + e_20 + e_31 + e_42 + e_56 + e_67 + e_81 + e_92) _ _ _ _ _ ls h hP hD hS (Nat.le_refl _) (Nat.le_refl _) hd.1 hd.2 d_Re_addMethod_143
theorem q1453 : Cond.methodLink "ClassWorks$Reader" 209 y_Re_noteMethod ∈ lw_ok := lw_okmem (List.mem_of_getElem? (i := 1453) (by decide +kernel)) rfl
theorem q1456 : Cond.code y_Re_noteMethod b_Re_noteMethod 7 (none) ∈ lw_ok := lw_okmem (List.mem_of_getElem? (i := 1456) (by decide +kernel)) rfl
theorem q1455 : Cond.instanceMethod y_Re_noteMethod ∈ lw_ok := lw_okmem (List.mem_of_getElem? (i := 1455) (by decide +kernel)) rfl
theorem q42 : Cond.selects y_Re_noteMethod.cls y_Re_noteMethod y_Re_noteMethod ∈ lw_ok := lw_okmem (List.mem_of_getElem? (i := 42) (by decide +kernel)) rfl
theorem w9_Re_noteMethod : CWv y_Re_noteMethod b_Re_noteMethod 7 (none) 3 ∧ Cond.instanceMethod y_Re_noteMethod ∈ lw_ok ∧ Cond.selects y_Re_noteMethod.cls y_Re_noteMethod y_Re_noteMethod ∈ lw_ok := ⟨⟨q1456, q340, by decide +kernel, by decide +kernel, by decide +kernel⟩, q1455, q42⟩
theorem q1457 : Cond.methodLink "ClassWorks$Reader" 218 y_Wd_methodWith ∈ lw_ok := lw_okmem (List.mem_of_getElem? (i := 1457) (by decide +kernel)) rfl
theorem q1461 : Cond.methodLink "ClassWorks$Reader" 221 y_Re_addMethod ∈ lw_ok := lw_okmem (List.mem_of_getElem? (i := 1461) (by decide +kernel)) rfl
theorem q1464 : Cond.code y_Re_addMethod b_Re_addMethod 3 (none) ∈ lw_ok := lw_okmem (List.mem_of_getElem? (i := 1464) (by decide +kernel)) rfl
theorem q1463 : Cond.instanceMethod y_Re_addMethod ∈ lw_ok := lw_okmem (List.mem_of_getElem? (i := 1463) (by decide +kernel)) rfl
theorem q43 : Cond.selects y_Re_addMethod.cls y_Re_addMethod y_Re_addMethod ∈ lw_ok := lw_okmem (List.mem_of_getElem? (i := 43) (by decide +kernel)) rfl
theorem w9_Re_addMethod : CWv y_Re_addMethod b_Re_addMethod 3 (none) 2 ∧ Cond.instanceMethod y_Re_addMethod ∈ lw_ok ∧ Cond.selects y_Re_addMethod.cls y_Re_addMethod y_Re_addMethod ∈ lw_ok := ⟨⟨q1464, q340, by decide +kernel, by decide +kernel, by decide +kernel⟩, q1463, q43⟩
def y_Re_methodLine : MethodName := ⟨"ClassWorks$Reader", "methodLine", "()V"⟩
abbrev b_Re_methodLine : ByteArray := prog_8_method_19_code
theorem d_Re_methodLine_0 : decode b_Re_methodLine 0 = .ok (.aload_n 0, 1) := by decide +kernel
theorem d_Re_methodLine_1 : decode b_Re_methodLine 1 = .ok (.iconst 1, 1) := by decide +kernel
theorem d_Re_methodLine_2 : decode b_Re_methodLine 2 = .ok (.putfield 27, 3) := by decide +kernel
theorem d_Re_methodLine_5 : decode b_Re_methodLine 5 = .ok (.aload_n 0, 1) := by decide +kernel
theorem d_Re_methodLine_6 : decode b_Re_methodLine 6 = .ok (.bipush 40, 2) := by decide +kernel
theorem d_Re_methodLine_8 : decode b_Re_methodLine 8 = .ok (.bipush 37, 2) := by decide +kernel
theorem d_Re_methodLine_10 : decode b_Re_methodLine 10 = .ok (.bipush 41, 2) := by decide +kernel
theorem d_Re_methodLine_12 : decode b_Re_methodLine 12 = .ok (.bipush 38, 2) := by decide +kernel
theorem d_Re_methodLine_14 : decode b_Re_methodLine 14 = .ok (.invokevirtual 140, 3) := by decide +kernel
theorem d_Re_methodLine_17 : decode b_Re_methodLine 17 = .ok (.istore_n 1, 1) := by decide +kernel
theorem d_Re_methodLine_18 : decode b_Re_methodLine 18 = .ok (.aload_n 0, 1) := by decide +kernel
theorem d_Re_methodLine_19 : decode b_Re_methodLine 19 = .ok (.bipush 109, 2) := by decide +kernel
theorem d_Re_methodLine_21 : decode b_Re_methodLine 21 = .ok (.invokevirtual 147, 3) := by decide +kernel
theorem d_Re_methodLine_24 : decode b_Re_methodLine 24 = .ok (.istore_n 2, 1) := by decide +kernel
theorem d_Re_methodLine_25 : decode b_Re_methodLine 25 = .ok (.aload_n 0, 1) := by decide +kernel
theorem d_Re_methodLine_26 : decode b_Re_methodLine 26 = .ok (.bipush 84, 2) := by decide +kernel
theorem d_Re_methodLine_28 : decode b_Re_methodLine 28 = .ok (.iconst 1, 1) := by decide +kernel
theorem d_Re_methodLine_29 : decode b_Re_methodLine 29 = .ok (.invokevirtual 205, 3) := by decide +kernel
theorem d_Re_methodLine_32 : decode b_Re_methodLine 32 = .ok (.aload_n 0, 1) := by decide +kernel
theorem d_Re_methodLine_33 : decode b_Re_methodLine 33 = .ok (.bipush 82, 2) := by decide +kernel
theorem d_Re_methodLine_35 : decode b_Re_methodLine 35 = .ok (.invokevirtual 147, 3) := by decide +kernel
theorem d_Re_methodLine_38 : decode b_Re_methodLine 38 = .ok (.istore_n 3, 1) := by decide +kernel
theorem d_Re_methodLine_39 : decode b_Re_methodLine 39 = .ok (.aload_n 0, 1) := by decide +kernel
theorem d_Re_methodLine_40 : decode b_Re_methodLine 40 = .ok (.bipush 36, 2) := by decide +kernel
theorem d_Re_methodLine_42 : decode b_Re_methodLine 42 = .ok (.invokevirtual 147, 3) := by decide +kernel
theorem d_Re_methodLine_45 : decode b_Re_methodLine 45 = .ok (.pop, 1) := by decide +kernel
theorem d_Re_methodLine_46 : decode b_Re_methodLine 46 = .ok (.aload_n 0, 1) := by decide +kernel
theorem d_Re_methodLine_47 : decode b_Re_methodLine 47 = .ok (.iload_n 1, 1) := by decide +kernel
theorem d_Re_methodLine_48 : decode b_Re_methodLine 48 = .ok (.bipush 8, 2) := by decide +kernel
theorem d_Re_methodLine_50 : decode b_Re_methodLine 50 = .ok (.iand, 1) := by decide +kernel
theorem d_Re_methodLine_51 : decode b_Re_methodLine 51 = .ok (.ifCond .eq 7, 3) := by decide +kernel
theorem d_Re_methodLine_54 : decode b_Re_methodLine 54 = .ok (.iconst 1, 1) := by decide +kernel
theorem d_Re_methodLine_55 : decode b_Re_methodLine 55 = .ok (.goto 4, 3) := by decide +kernel
theorem d_Re_methodLine_58 : decode b_Re_methodLine 58 = .ok (.iconst 2, 1) := by decide +kernel
theorem d_Re_methodLine_59 : decode b_Re_methodLine 59 = .ok (.putfield 21, 3) := by decide +kernel
theorem d_Re_methodLine_62 : decode b_Re_methodLine 62 = .ok (.aload_n 0, 1) := by decide +kernel
theorem d_Re_methodLine_63 : decode b_Re_methodLine 63 = .ok (.getfield 18, 3) := by decide +kernel
theorem d_Re_methodLine_66 : decode b_Re_methodLine 66 = .ok (.ifCond .eq 4, 3) := by decide +kernel
theorem d_Re_methodLine_69 : decode b_Re_methodLine 69 = .ok (.return_, 1) := by decide +kernel
theorem d_Re_methodLine_70 : decode b_Re_methodLine 70 = .ok (.aload_n 0, 1) := by decide +kernel
theorem d_Re_methodLine_71 : decode b_Re_methodLine 71 = .ok (.iload_n 1, 1) := by decide +kernel
theorem d_Re_methodLine_72 : decode b_Re_methodLine 72 = .ok (.iload_n 2, 1) := by decide +kernel
theorem d_Re_methodLine_73 : decode b_Re_methodLine 73 = .ok (.iload_n 3, 1) := by decide +kernel
theorem d_Re_methodLine_74 : decode b_Re_methodLine 74 = .ok (.invokevirtual 209, 3) := by decide +kernel
theorem d_Re_methodLine_77 : decode b_Re_methodLine 77 = .ok (.aload_n 0, 1) := by decide +kernel
theorem d_Re_methodLine_78 : decode b_Re_methodLine 78 = .ok (.getfield 72, 3) := by decide +kernel
theorem d_Re_methodLine_81 : decode b_Re_methodLine 81 = .ok (.aload_n 0, 1) := by decide +kernel
theorem d_Re_methodLine_82 : decode b_Re_methodLine 82 = .ok (.getfield 30, 3) := by decide +kernel
theorem d_Re_methodLine_85 : decode b_Re_methodLine 85 = .ok (.bipush 11, 2) := by decide +kernel
theorem d_Re_methodLine_87 : decode b_Re_methodLine 87 = .ok (.invokevirtual 192, 3) := by decide +kernel
theorem d_Re_methodLine_90 : decode b_Re_methodLine 90 = .ok (.istore 4, 2) := by decide +kernel
theorem d_Re_methodLine_92 : decode b_Re_methodLine 92 = .ok (.iload 4, 2) := by decide +kernel
theorem d_Re_methodLine_94 : decode b_Re_methodLine 94 = .ok (.bipush 12, 2) := by decide +kernel
theorem d_Re_methodLine_96 : decode b_Re_methodLine 96 = .ok (.if_icmp .ne 9, 3) := by decide +kernel
theorem d_Re_methodLine_99 : decode b_Re_methodLine 99 = .ok (.aload_n 0, 1) := by decide +kernel
theorem d_Re_methodLine_100 : decode b_Re_methodLine 100 = .ok (.bipush 12, 2) := by decide +kernel
theorem d_Re_methodLine_102 : decode b_Re_methodLine 102 = .ok (.invokevirtual 170, 3) := by decide +kernel
theorem d_Re_methodLine_105 : decode b_Re_methodLine 105 = .ok (.aload_n 0, 1) := by decide +kernel
theorem d_Re_methodLine_106 : decode b_Re_methodLine 106 = .ok (.getfield 40, 3) := by decide +kernel
theorem d_Re_methodLine_109 : decode b_Re_methodLine 109 = .ok (.bipush 6, 2) := by decide +kernel
theorem d_Re_methodLine_111 : decode b_Re_methodLine 111 = .ok (.if_icmp .le 4, 3) := by decide +kernel
theorem d_Re_methodLine_114 : decode b_Re_methodLine 114 = .ok (.return_, 1) := by decide +kernel
theorem d_Re_methodLine_115 : decode b_Re_methodLine 115 = .ok (.aload_n 0, 1) := by decide +kernel
theorem d_Re_methodLine_116 : decode b_Re_methodLine 116 = .ok (.getfield 64, 3) := by decide +kernel
theorem d_Re_methodLine_119 : decode b_Re_methodLine 119 = .ok (.iload_n 2, 1) := by decide +kernel
theorem d_Re_methodLine_120 : decode b_Re_methodLine 120 = .ok (.aload_n 0, 1) := by decide +kernel
theorem d_Re_methodLine_121 : decode b_Re_methodLine 121 = .ok (.getfield 40, 3) := by decide +kernel
theorem d_Re_methodLine_124 : decode b_Re_methodLine 124 = .ok (.aload_n 0, 1) := by decide +kernel
theorem d_Re_methodLine_125 : decode b_Re_methodLine 125 = .ok (.getfield 36, 3) := by decide +kernel
theorem d_Re_methodLine_128 : decode b_Re_methodLine 128 = .ok (.iload_n 3, 1) := by decide +kernel
theorem d_Re_methodLine_129 : decode b_Re_methodLine 129 = .ok (.invokevirtual 212, 3) := by decide +kernel
theorem d_Re_methodLine_132 : decode b_Re_methodLine 132 = .ok (.istore 5, 2) := by decide +kernel
theorem d_Re_methodLine_134 : decode b_Re_methodLine 134 = .ok (.aload_n 0, 1) := by decide +kernel
theorem d_Re_methodLine_135 : decode b_Re_methodLine 135 = .ok (.getfield 72, 3) := by decide +kernel
theorem d_Re_methodLine_138 : decode b_Re_methodLine 138 = .ok (.aload_n 0, 1) := by decide +kernel
theorem d_Re_methodLine_139 : decode b_Re_methodLine 139 = .ok (.getfield 30, 3) := by decide +kernel
theorem d_Re_methodLine_142 : decode b_Re_methodLine 142 = .ok (.iload 5, 2) := by decide +kernel
theorem d_Re_methodLine_144 : decode b_Re_methodLine 144 = .ok (.invokevirtual 218, 3) := by decide +kernel
theorem d_Re_methodLine_147 : decode b_Re_methodLine 147 = .ok (.ifCond .lt 8, 3) := by decide +kernel
theorem d_Re_methodLine_150 : decode b_Re_methodLine 150 = .ok (.aload_n 0, 1) := by decide +kernel
theorem d_Re_methodLine_151 : decode b_Re_methodLine 151 = .ok (.iconst 3, 1) := by decide +kernel
theorem d_Re_methodLine_152 : decode b_Re_methodLine 152 = .ok (.invokevirtual 170, 3) := by decide +kernel
theorem d_Re_methodLine_155 : decode b_Re_methodLine 155 = .ok (.aload_n 0, 1) := by decide +kernel
theorem d_Re_methodLine_156 : decode b_Re_methodLine 156 = .ok (.getfield 24, 3) := by decide +kernel
theorem d_Re_methodLine_159 : decode b_Re_methodLine 159 = .ok (.ifCond .ne 27, 3) := by decide +kernel
theorem d_Re_methodLine_162 : decode b_Re_methodLine 162 = .ok (.aload_n 0, 1) := by decide +kernel
theorem d_Re_methodLine_163 : decode b_Re_methodLine 163 = .ok (.iload 5, 2) := by decide +kernel
theorem d_Re_methodLine_165 : decode b_Re_methodLine 165 = .ok (.iload_n 1, 1) := by decide +kernel
theorem d_Re_methodLine_166 : decode b_Re_methodLine 166 = .ok (.invokevirtual 221, 3) := by decide +kernel
theorem d_Re_methodLine_169 : decode b_Re_methodLine 169 = .ok (.aload_n 0, 1) := by decide +kernel
theorem d_Re_methodLine_170 : decode b_Re_methodLine 170 = .ok (.getfield 72, 3) := by decide +kernel
theorem d_Re_methodLine_173 : decode b_Re_methodLine 173 = .ok (.aload_n 0, 1) := by decide +kernel
theorem d_Re_methodLine_174 : decode b_Re_methodLine 174 = .ok (.getfield 30, 3) := by decide +kernel
theorem d_Re_methodLine_177 : decode b_Re_methodLine 177 = .ok (.bipush 11, 2) := by decide +kernel
theorem d_Re_methodLine_179 : decode b_Re_methodLine 179 = .ok (.iload 4, 2) := by decide +kernel
theorem d_Re_methodLine_181 : decode b_Re_methodLine 181 = .ok (.iconst 1, 1) := by decide +kernel
theorem d_Re_methodLine_182 : decode b_Re_methodLine 182 = .ok (.iadd, 1) := by decide +kernel
theorem d_Re_methodLine_183 : decode b_Re_methodLine 183 = .ok (.invokevirtual 162, 3) := by decide +kernel
theorem d_Re_methodLine_186 : decode b_Re_methodLine 186 = .ok (.return_, 1) := by decide +kernel
abbrev ra_Re_methodLine (mc ms : Nat) : Room := { frames := 6, cells := mc, slots := ms, locals := 448 }
def wja_Re_methodLine_186 (mc ms : Nat) (Post : Ly → St → Nat → Nat → Prop) (a0 : Nat) (y_j186 : Ly) (s_j186 : St) (d_j186 e_j186 : Nat) : Prop := (d_j186 ≤ mc ∧ e_j186 ≤ ms) ∧ Post y_j186 s_j186 d_j186 e_j186
def wja_Re_methodLine_155 (mc ms : Nat) (Post : Ly → St → Nat → Nat → Prop) (a0 : Nat) (y_j155 : Ly) (s_j155 : St) (d_j155 e_j155 : Nat) (x1j155 : Int32) (x4j155 : Int32) (x5j155 : Int32) : Prop := (d_j155 ≤ mc ∧ e_j155 ≤ ms) ∧ ((¬ (sV s_j155 a0 7) = 0 → wja_Re_methodLine_186 mc ms Post a0 y_j155 s_j155 d_j155 e_j155) ∧ ((sV s_j155 a0 7) = 0 → ∃ mc_38 ms_39 : Nat, (d_j155 + mc_38 ≤ mc ∧ e_j155 + ms_39 ≤ ms) ∧ wa_Re_addMethod mc_38 ms_39 y_j155 (fun (y_35 : Ly) (s_34 : St) (d_36 e_37 : Nat) => (d_j155 + d_36 ≤ mc ∧ e_j155 + e_37 ≤ ms) ∧ ∃ b_41 : Nat, sO s_34 a0 4 = some b_41 ∧ cl b_41 = 9 ∧ wu_Wd_set y_35 (fun (s_45 : St) => wja_Re_methodLine_186 mc ms Post a0 y_35 s_45 (d_j155 + d_36) (e_j155 + e_37)) s_34 b_41 (sV s_34 a0 9) 11 (x4j155 + 1)) s_j155 a0 x5j155 x1j155))
def wja_Re_methodLine_105 (mc ms : Nat) (Post : Ly → St → Nat → Nat → Prop) (a0 : Nat) (y_j105 : Ly) (s_j105 : St) (d_j105 e_j105 : Nat) (x1j105 : Int32) (x2j105 : Int32) (x3j105 : Int32) (x4j105 : Int32) : Prop := (d_j105 ≤ mc ∧ e_j105 ≤ ms) ∧ (((sV s_j105 a0 12) ≤ 6 → ∃ mc_25 ms_26 : Nat, (d_j105 + mc_25 ≤ mc ∧ e_j105 + ms_26 ≤ ms) ∧ wa_Na_sign mc_25 ms_26 y_j105 (fun (y_22 : Ly) (s_21 : St) (r_20 : Int32) (d_23 e_24 : Nat) => (d_j105 + d_23 ≤ mc ∧ e_j105 + e_24 ≤ ms) ∧ ∃ b_28 : Nat, sO s_21 a0 4 = some b_28 ∧ cl b_28 = 9 ∧ wu_Wd_methodWith y_22 (fun (s_32 : St) (r_31 : Int32) => ((r_31 < 0 → wja_Re_methodLine_155 mc ms Post a0 y_22 s_32 (d_j105 + d_23) (e_j105 + e_24) x1j105 x4j105 r_20) ∧ (¬ (r_31 < 0) → wu_Re_note y_22 (fun (s_47 : St) => wja_Re_methodLine_155 mc ms Post a0 y_22 s_47 (d_j105 + d_23) (e_j105 + e_24) x1j105 x4j105 r_20) s_32 a0 3))) s_21 b_28 (sV s_21 a0 9) r_20) s_j105 (lk a0 2) x2j105 (sV s_j105 a0 12) a0 11 x3j105) ∧ (¬ ((sV s_j105 a0 12) ≤ 6) → Post y_j105 s_j105 d_j105 e_j105))
def wja_Re_methodLine_59 (mc ms : Nat) (Post : Ly → St → Nat → Nat → Prop) (a0 : Nat) (y_j59 : Ly) (s_j59 : St) (d_j59 e_j59 : Nat) (x1j59 : Int32) (x2j59 : Int32) (x3j59 : Int32) (z1j59 : Int32) : Prop := (d_j59 ≤ mc ∧ e_j59 ≤ ms) ∧ xP (uV s_j59 a0 6 z1j59) (fun s_12 : St => (((sV s_12 a0 5) = 0 → wu_Re_noteMethod y_j59 (fun (s_14 : St) => ∃ b_15 : Nat, sO s_14 a0 4 = some b_15 ∧ cl b_15 = 9 ∧ wu_Wd_of y_j59 (fun (s_19 : St) (r_18 : Int32) => ((¬ r_18 = 12 → wja_Re_methodLine_105 mc ms Post a0 y_j59 s_19 d_j59 e_j59 x1j59 x2j59 x3j59 r_18) ∧ (r_18 = 12 → wu_Re_note y_j59 (fun (s_49 : St) => wja_Re_methodLine_105 mc ms Post a0 y_j59 s_49 d_j59 e_j59 x1j59 x2j59 x3j59 r_18) s_19 a0 12))) s_14 b_15 (sV s_14 a0 9) 11) s_12 a0 x1j59 x2j59 x3j59) ∧ (¬ ((sV s_12 a0 5) = 0) → Post y_j59 s_12 d_j59 e_j59)))
def wa_Re_methodLine (mc ms : Nat) (y : Ly) (Post : Ly → St → Nat → Nat → Prop) (σ : St) (a0 : Nat) : Prop := xP (uV σ a0 8 1) (fun s_1 : St => wu_Re_takeFlags y (fun (s_3 : St) (r_2 : Int32) => wu_Re_take y (fun (s_5 : St) (r_4 : Int32) => wu_Re_takeTypes y (fun (s_7 : St) => wu_Re_take y (fun (s_9 : St) (r_8 : Int32) => wu_Re_take y (fun (s_11 : St) (r_10 : Int32) => (((r_2 &&& 8) = 0 → wja_Re_methodLine_59 mc ms Post a0 y s_11 0 0 r_2 r_4 r_8 2) ∧ (¬ ((r_2 &&& 8) = 0) → wja_Re_methodLine_59 mc ms Post a0 y s_11 0 0 r_2 r_4 r_8 1))) s_9 a0 36) s_7 a0 82) s_5 a0 84 1) s_3 a0 109) s_1 a0 40 37 41 38)
set_option maxHeartbeats 4000000 in
set_option maxRecDepth 100000 in
theorem ca_Re_methodLine (l : Launch) (D : va_G) (g : Nat → ClassId) (ad : Nat → Nat) (mc ms : Nat) (y : Ly) (Post : Ly → St → Nat → Nat → Prop) (σ : St) (a0 : Nat) (sz uz : Nat) (h_a0 : cl a0 = 6) (h : wa_Re_methodLine mc ms y Post σ a0) : Met l y_Re_methodLine (mw y_Re_methodLine b_Re_methodLine 6 (none)) (ra_Re_methodLine mc ms) (PCu g D [] [.ref (ad a0)] sz uz (ws g ad y σ)) (va_Qv (fun (u : Ly × St × Nat × Nat) => Post u.1 u.2.1 u.2.2.1 u.2.2.2) (QU D (va_A (ws g ad y σ) sz) (fun u => ws g ad u.1 u.2.1) sz uz (fun u => u.2.2.1) (fun u => u.2.2.2)) (va_A (ws g ad y σ) sz)) mc ms (va_A (ws g ad y σ) sz) := by
  refine ofVu (by decide +kernel) (Nat.le_of_ble_eq_true rfl) ?_
  intro p e s m args below meth c A Q ls H locs G hsz hP hD hS hl hret
  subst hsz
  have hl : lv_has ls 6 [(0, .ref (ad a0))] := hl
  have hd : 0 ≤ mc ∧ 0 ≤ ms := ⟨Nat.zero_le _, Nat.zero_le _⟩
  unfold wa_Re_methodLine at h
  refine lv_aload_n G.1 G.2.1 d_Re_methodLine_0 rfl (lv_at hl 0 rfl) ?_
  refine lv_iconst (v := 1) G.1 G.2.1 d_Re_methodLine_1 (by decide) ?_
  refine upf G hP hD hS h 8 putV h_a0 iRe tRe tRe_ok nRe rfl (by decide) rfl q595 rfl rfl fV rfl rfl d_Re_methodLine_2 (fun s_1 H locs h hP hD hS => ?_)
  refine lv_aload_n G.1 G.2.1 d_Re_methodLine_5 rfl (lv_at hl 0 rfl) ?_
  refine lv_bipush (v := 40) G.1 G.2.1 d_Re_methodLine_6 (by decide) ?_
  refine lv_bipush (v := 37) G.1 G.2.1 d_Re_methodLine_8 (by decide) ?_
  refine lv_bipush (v := 41) G.1 G.2.1 d_Re_methodLine_10 (by decide) ?_
  refine lv_bipush (v := 38) G.1 G.2.1 d_Re_methodLine_12 (by decide) ?_
  refine ucVi (As := [.int 40, .int 37, .int 41, .int 38]) (rest := []) G hP hD hS (cu_Re_takeFlags l D g ad y _ s_1 a0 40 37 41 38 H.size h_a0 h) w9_Re_takeFlags q1309 ⟨Nat.le_of_ble_eq_true rfl, Nat.le_of_ble_eq_true rfl⟩ rfl rfl h_a0 (q := (RRe, TRe, 18)) rfl rfl hl.1 rfl (Nat.le_of_ble_eq_true rfl) rfl hd d_Re_methodLine_14 (fun r_2 s_3 H locs h hP hD hS => ?_)
  refine lv_istore_n (lv' := [(1, .int r_2), (0, .ref (ad a0))]) G.1 G.2.1 d_Re_methodLine_17 rfl hl (by decide) rfl (fun ls hl => ?_)
  refine lv_aload_n G.1 G.2.1 d_Re_methodLine_18 rfl (lv_at hl 1 rfl) ?_
  refine W.eq (g2 := F0 m 19 ls [.ref (ad a0)]) rfl ?_
  refine lv_bipush (v := 109) G.1 G.2.1 d_Re_methodLine_19 (by decide) ?_
  refine ucVi (As := [.int 109]) (rest := []) G hP hD hS (cu_Re_take l D g ad y _ s_3 a0 109 H.size h_a0 h) w9_Re_take q1321 ⟨Nat.le_of_ble_eq_true rfl, Nat.le_of_ble_eq_true rfl⟩ rfl rfl h_a0 (q := (RRe, TRe, 18)) rfl rfl hl.1 rfl (Nat.le_of_ble_eq_true rfl) rfl hd d_Re_methodLine_21 (fun r_4 s_5 H locs h hP hD hS => ?_)
  refine lv_istore_n (lv' := [(2, .int r_4), (1, .int r_2), (0, .ref (ad a0))]) G.1 G.2.1 d_Re_methodLine_24 rfl hl (by decide) rfl (fun ls hl => ?_)
  refine lv_aload_n G.1 G.2.1 d_Re_methodLine_25 rfl (lv_at hl 2 rfl) ?_
  refine lv_bipush (v := 84) G.1 G.2.1 d_Re_methodLine_26 (by decide) ?_
  refine lv_iconst (v := 1) G.1 G.2.1 d_Re_methodLine_28 (by decide) ?_
  refine ucVv (As := [.int 84, .int 1]) (rest := []) G hP hD hS (cu_Re_takeTypes l D g ad y _ s_5 a0 84 1 H.size h_a0 h) w9_Re_takeTypes q1415 ⟨Nat.le_of_ble_eq_true rfl, Nat.le_of_ble_eq_true rfl⟩ rfl rfl h_a0 (q := (RRe, TRe, 18)) rfl rfl hl.1 rfl (Nat.le_of_ble_eq_true rfl) rfl hd d_Re_methodLine_29 (fun s_7 H locs h hP hD hS => ?_)
  refine lv_aload_n G.1 G.2.1 d_Re_methodLine_32 rfl (lv_at hl 2 rfl) ?_
  refine lv_bipush (v := 82) G.1 G.2.1 d_Re_methodLine_33 (by decide) ?_
  refine ucVi (As := [.int 82]) (rest := []) G hP hD hS (cu_Re_take l D g ad y _ s_7 a0 82 H.size h_a0 h) w9_Re_take q1321 ⟨Nat.le_of_ble_eq_true rfl, Nat.le_of_ble_eq_true rfl⟩ rfl rfl h_a0 (q := (RRe, TRe, 18)) rfl rfl hl.1 rfl (Nat.le_of_ble_eq_true rfl) rfl hd d_Re_methodLine_35 (fun r_8 s_9 H locs h hP hD hS => ?_)
  refine lv_istore_n (lv' := [(3, .int r_8), (2, .int r_4), (1, .int r_2), (0, .ref (ad a0))]) G.1 G.2.1 d_Re_methodLine_38 rfl hl (by decide) rfl (fun ls hl => ?_)
  refine lv_aload_n G.1 G.2.1 d_Re_methodLine_39 rfl (lv_at hl 3 rfl) ?_
  refine W.eq (g2 := F0 m 40 ls [.ref (ad a0)]) rfl ?_
  refine lv_bipush (v := 36) G.1 G.2.1 d_Re_methodLine_40 (by decide) ?_
  refine ucVi (As := [.int 36]) (rest := []) G hP hD hS (cu_Re_take l D g ad y _ s_9 a0 36 H.size h_a0 h) w9_Re_take q1321 ⟨Nat.le_of_ble_eq_true rfl, Nat.le_of_ble_eq_true rfl⟩ rfl rfl h_a0 (q := (RRe, TRe, 18)) rfl rfl hl.1 rfl (Nat.le_of_ble_eq_true rfl) rfl hd d_Re_methodLine_42 (fun r_10 s_11 H locs h hP hD hS => ?_)
  refine lv_pop G.1 G.2.1 d_Re_methodLine_45 rfl ?_
  refine lv_aload_n G.1 G.2.1 d_Re_methodLine_46 rfl (lv_at hl 3 rfl) ?_
  refine lv_iload_n G.1 G.2.1 d_Re_methodLine_47 rfl (lv_at hl 2 rfl) ?_
  refine lv_bipush (v := 8) G.1 G.2.1 d_Re_methodLine_48 (by decide) ?_
  refine lv_iand G.1 G.2.1 d_Re_methodLine_50 ?_
  have J_59 : ∀ (y_j59 : Ly) (s_j59 : St) (d_j59 e_j59 : Nat) (x1j59 : Int32) (x2j59 : Int32) (x3j59 : Int32) (z1j59 : Int32) (H : Heap) (locs : List Loc), wja_Re_methodLine_59 mc ms Post a0 y_j59 s_j59 d_j59 e_j59 x1j59 x2j59 x3j59 z1j59 → va_P D CL (ws g ad y_j59 s_j59) H → va_D A (ws g ad y_j59 s_j59) → va_S A s.heap H locs → ∀ ls, lv_has ls 6 [(0, .ref (ad a0)), (1, .int x1j59), (2, .int x2j59), (3, .int x3j59)] → W p l e (ra_Re_methodLine mc ms) s m args below meth c H locs d_j59 e_j59 Q (F0 m 59 ls [.int z1j59, .ref (ad a0)]) := by
    intro y_j59 s_j59 d_j59 e_j59 x1j59 x2j59 x3j59 z1j59 H locs h hP hD hS ls hl
    unfold wja_Re_methodLine_59 at h
    obtain ⟨hd, h⟩ := h
    refine upf G hP hD hS h 6 putV h_a0 iRe tRe tRe_ok nRe rfl (by decide) rfl q593 rfl rfl fV rfl rfl d_Re_methodLine_59 (fun s_12 H locs h hP hD hS => ?_)
    refine lv_aload_n G.1 G.2.1 d_Re_methodLine_62 rfl (lv_at hl 0 rfl) ?_
    refine ugf (v := .int (sV s_12 a0 5)) G hP h_a0 iRe rfl 5 (by decide) rfl q592 rfl rfl d_Re_methodLine_63 ?_
    refine lv_if_eq (tgt := 70) G.1 G.2.1 d_Re_methodLine_66 (by decide) (fun c66 => ?_) (fun c66 => ?_)
    · skip
      have h := h.1 c66
      refine lv_aload_n G.1 G.2.1 d_Re_methodLine_70 rfl (lv_at hl 0 rfl) ?_
      refine lv_iload_n G.1 G.2.1 d_Re_methodLine_71 rfl (lv_at hl 1 rfl) ?_
      refine lv_iload_n G.1 G.2.1 d_Re_methodLine_72 rfl (lv_at hl 2 rfl) ?_
      refine lv_iload_n G.1 G.2.1 d_Re_methodLine_73 rfl (lv_at hl 3 rfl) ?_
      refine ucVv (As := [.int x1j59, .int x2j59, .int x3j59]) (rest := []) G hP hD hS (cu_Re_noteMethod l D g ad y_j59 _ s_12 a0 x1j59 x2j59 x3j59 H.size h_a0 h) w9_Re_noteMethod q1453 ⟨Nat.le_of_ble_eq_true rfl, Nat.le_of_ble_eq_true rfl⟩ rfl rfl h_a0 (q := (RRe, TRe, 18)) rfl rfl hl.1 rfl (Nat.le_of_ble_eq_true rfl) rfl hd d_Re_methodLine_74 (fun s_14 H locs h hP hD hS => ?_)
      refine lv_aload_n G.1 G.2.1 d_Re_methodLine_77 rfl (lv_at hl 0 rfl) ?_
      obtain ⟨b_15, e_16, c_17, h⟩ := h
      refine ugf (v := .ref (ad b_15)) G hP h_a0 iRe rfl 4 (by decide) rfl q591 rfl (by show va_rf ((sO s_14 a0 4).map ad) = _; rw [e_16]; rfl) d_Re_methodLine_78 ?_
      refine W.eq (g2 := F0 m 81 ls [.ref (ad b_15)]) rfl ?_
      refine lv_aload_n G.1 G.2.1 d_Re_methodLine_81 rfl (lv_at hl 0 rfl) ?_
      refine ugf (v := .int (sV s_14 a0 9)) G hP h_a0 iRe rfl 9 (by decide) rfl q596 rfl rfl d_Re_methodLine_82 ?_
      refine lv_bipush (v := 11) G.1 G.2.1 d_Re_methodLine_85 (by decide) ?_
      refine ucVi (As := [.int (sV s_14 a0 9), .int 11]) (rest := []) G hP hD hS (cu_Wd_of l D g ad y_j59 _ s_14 b_15 (sV s_14 a0 9) 11 H.size c_17 h) w9_Wd_of q1441 ⟨Nat.le_of_ble_eq_true rfl, Nat.le_of_ble_eq_true rfl⟩ rfl rfl c_17 (q := (RWd, TWd, 17)) rfl rfl hl.1 rfl (Nat.le_of_ble_eq_true rfl) rfl hd d_Re_methodLine_87 (fun r_18 s_19 H locs h hP hD hS => ?_)
      refine lv_istore (lv' := [(4, .int r_18), (0, .ref (ad a0)), (1, .int x1j59), (2, .int x2j59), (3, .int x3j59)]) G.1 G.2.1 d_Re_methodLine_90 hl (by decide) rfl (fun ls hl => ?_)
      refine lv_iload G.1 G.2.1 d_Re_methodLine_92 (lv_at hl 0 rfl) ?_
      refine lv_bipush (v := 12) G.1 G.2.1 d_Re_methodLine_94 (by decide) ?_
      have J_105 : ∀ (y_j105 : Ly) (s_j105 : St) (d_j105 e_j105 : Nat) (x1j105 : Int32) (x2j105 : Int32) (x3j105 : Int32) (x4j105 : Int32) (H : Heap) (locs : List Loc), wja_Re_methodLine_105 mc ms Post a0 y_j105 s_j105 d_j105 e_j105 x1j105 x2j105 x3j105 x4j105 → va_P D CL (ws g ad y_j105 s_j105) H → va_D A (ws g ad y_j105 s_j105) → va_S A s.heap H locs → ∀ ls, lv_has ls 6 [(0, .ref (ad a0)), (1, .int x1j105), (2, .int x2j105), (3, .int x3j105), (4, .int x4j105)] → W p l e (ra_Re_methodLine mc ms) s m args below meth c H locs d_j105 e_j105 Q (F0 m 105 ls []) := by
        intro y_j105 s_j105 d_j105 e_j105 x1j105 x2j105 x3j105 x4j105 H locs h hP hD hS ls hl
        unfold wja_Re_methodLine_105 at h
        obtain ⟨hd, h⟩ := h
        refine lv_aload_n G.1 G.2.1 d_Re_methodLine_105 rfl (lv_at hl 0 rfl) ?_
        refine ugf (v := .int (sV s_j105 a0 12)) G hP h_a0 iRe rfl 12 (by decide) rfl q599 rfl rfl d_Re_methodLine_106 ?_
        refine lv_bipush (v := 6) G.1 G.2.1 d_Re_methodLine_109 (by decide) ?_
        refine lv_icmp_le (tgt := 115) G.1 G.2.1 d_Re_methodLine_111 (by decide) (fun c111 => ?_) (fun c111 => ?_)
        · skip
          have h := h.1 c111
          refine lv_aload_n G.1 G.2.1 d_Re_methodLine_115 rfl (lv_at hl 0 rfl) ?_
          refine ugf (v := .ref (ad (lk a0 2))) G hP h_a0 iRe rfl 2 (by decide) rfl q589 rfl rfl d_Re_methodLine_116 ?_
          refine lv_iload_n G.1 G.2.1 d_Re_methodLine_119 rfl (lv_at hl 2 rfl) ?_
          refine lv_aload_n G.1 G.2.1 d_Re_methodLine_120 rfl (lv_at hl 0 rfl) ?_
          refine ugf (v := .int (sV s_j105 a0 12)) G hP h_a0 iRe rfl 12 (by decide) rfl q599 rfl rfl d_Re_methodLine_121 ?_
          refine lv_aload_n G.1 G.2.1 d_Re_methodLine_124 rfl (lv_at hl 0 rfl) ?_
          refine ugf (v := .ref (yP y_j105 a0 11)) G hP h_a0 iRe rfl 11 (by decide) rfl q598 rfl rfl d_Re_methodLine_125 ?_
          refine W.eq (g2 := F0 m 128 ls [.ref (yP y_j105 a0 11), .int (sV s_j105 a0 12), .int x2j105, .ref (ad (lk a0 2))]) rfl ?_
          refine lv_iload_n G.1 G.2.1 d_Re_methodLine_128 rfl (lv_at hl 3 rfl) ?_
          obtain ⟨mc_25, ms_26, hr_27, h⟩ := h
          refine uaVi (As := [.int x2j105, .int (sV s_j105 a0 12), .ref (yP y_j105 a0 11), .int x3j105]) (rest := []) G hP hD hS (ca_Na_sign l D g ad mc_25 ms_26 y_j105 _ s_j105 (lk a0 2) x2j105 (sV s_j105 a0 12) a0 11 x3j105 H.size (us H) (lk_6_2 h_a0) ⟨(kdp h_a0 rfl), (typ h_a0 rfl)⟩ h) w9_Na_sign q1419 ⟨Nat.le_of_ble_eq_true rfl, Nat.le_of_ble_eq_true rfl⟩ rfl rfl (lk_6_2 h_a0) (q := (RNa, TNa, 11)) rfl rfl hl.1 rfl (Nat.le_of_ble_eq_true rfl) rfl hr_27 d_Re_methodLine_129 (fun r_20 y_22 s_21 d_23 e_24 H locs h hP hD hS => ?_)
          have hl := lv_sub (l' := [(0, .ref (ad a0)), (1, .int x1j105), (4, .int x4j105)]) hl [0, 1, 4] rfl
          obtain ⟨hd, h⟩ := h
          refine lv_istore (lv' := [(5, .int r_20), (0, .ref (ad a0)), (1, .int x1j105), (4, .int x4j105)]) G.1 G.2.1 d_Re_methodLine_132 hl (by decide) rfl (fun ls hl => ?_)
          refine lv_aload_n G.1 G.2.1 d_Re_methodLine_134 rfl (lv_at hl 1 rfl) ?_
          obtain ⟨b_28, e_29, c_30, h⟩ := h
          refine ugf (v := .ref (ad b_28)) G hP h_a0 iRe rfl 4 (by decide) rfl q591 rfl (by show va_rf ((sO s_21 a0 4).map ad) = _; rw [e_29]; rfl) d_Re_methodLine_135 ?_
          refine lv_aload_n G.1 G.2.1 d_Re_methodLine_138 rfl (lv_at hl 1 rfl) ?_
          refine ugf (v := .int (sV s_21 a0 9)) G hP h_a0 iRe rfl 9 (by decide) rfl q596 rfl rfl d_Re_methodLine_139 ?_
          refine lv_iload G.1 G.2.1 d_Re_methodLine_142 (lv_at hl 0 rfl) ?_
          refine ucVi (As := [.int (sV s_21 a0 9), .int r_20]) (rest := []) G hP hD hS (cu_Wd_methodWith l D g ad y_22 _ s_21 b_28 (sV s_21 a0 9) r_20 H.size c_30 h) w9_Wd_methodWith q1457 ⟨Nat.le_of_ble_eq_true rfl, Nat.le_of_ble_eq_true rfl⟩ rfl rfl c_30 (q := (RWd, TWd, 17)) rfl rfl hl.1 rfl (Nat.le_of_ble_eq_true rfl) rfl hd d_Re_methodLine_144 (fun r_31 s_32 H locs h hP hD hS => ?_)
          have J_155 : ∀ (y_j155 : Ly) (s_j155 : St) (d_j155 e_j155 : Nat) (x1j155 : Int32) (x4j155 : Int32) (x5j155 : Int32) (H : Heap) (locs : List Loc), wja_Re_methodLine_155 mc ms Post a0 y_j155 s_j155 d_j155 e_j155 x1j155 x4j155 x5j155 → va_P D CL (ws g ad y_j155 s_j155) H → va_D A (ws g ad y_j155 s_j155) → va_S A s.heap H locs → ∀ ls, lv_has ls 6 [(0, .ref (ad a0)), (1, .int x1j155), (4, .int x4j155), (5, .int x5j155)] → W p l e (ra_Re_methodLine mc ms) s m args below meth c H locs d_j155 e_j155 Q (F0 m 155 ls []) := by
            intro y_j155 s_j155 d_j155 e_j155 x1j155 x4j155 x5j155 H locs h hP hD hS ls hl
            unfold wja_Re_methodLine_155 at h
            obtain ⟨hd, h⟩ := h
            refine lv_aload_n G.1 G.2.1 d_Re_methodLine_155 rfl (lv_at hl 0 rfl) ?_
            refine ugf (v := .int (sV s_j155 a0 7)) G hP h_a0 iRe rfl 7 (by decide) rfl q594 rfl rfl d_Re_methodLine_156 ?_
            have J_186 : ∀ (y_j186 : Ly) (s_j186 : St) (d_j186 e_j186 : Nat) (H : Heap) (locs : List Loc), wja_Re_methodLine_186 mc ms Post a0 y_j186 s_j186 d_j186 e_j186 → va_P D CL (ws g ad y_j186 s_j186) H → va_D A (ws g ad y_j186 s_j186) → va_S A s.heap H locs → ∀ ls, lv_has ls 6 [] → W p l e (ra_Re_methodLine mc ms) s m args below meth c H locs d_j186 e_j186 Q (F0 m 186 ls []) := by
              intro y_j186 s_j186 d_j186 e_j186 H locs h hP hD hS ls hl
              unfold wja_Re_methodLine_186 at h
              obtain ⟨hd, h⟩ := h
              exact hret (y_j186, s_j186, d_j186, e_j186) _ _ _ _ _ ls h hP hD hS (Nat.le_refl _) (Nat.le_refl _) hd.1 hd.2 d_Re_methodLine_186
            refine lv_if_ne (tgt := 186) G.1 G.2.1 d_Re_methodLine_159 (by decide) (fun c159 => ?_) (fun c159 => ?_)
            · skip
              have h := h.1 c159
              exact J_186 y_j155 s_j155 d_j155 e_j155 H locs h hP hD hS ls (lv_sub hl [] rfl)
            · skip
              have h := h.2 c159
              refine lv_aload_n G.1 G.2.1 d_Re_methodLine_162 rfl (lv_at hl 0 rfl) ?_
              refine lv_iload G.1 G.2.1 d_Re_methodLine_163 (lv_at hl 3 rfl) ?_
              refine lv_iload_n G.1 G.2.1 d_Re_methodLine_165 rfl (lv_at hl 1 rfl) ?_
              obtain ⟨mc_38, ms_39, hr_40, h⟩ := h
              refine uaVv (As := [.int x5j155, .int x1j155]) (rest := []) G hP hD hS (ca_Re_addMethod l D g ad mc_38 ms_39 y_j155 _ s_j155 a0 x5j155 x1j155 H.size (us H) h_a0 h) w9_Re_addMethod q1461 ⟨Nat.le_of_ble_eq_true rfl, Nat.le_of_ble_eq_true rfl⟩ rfl rfl h_a0 (q := (RRe, TRe, 18)) rfl rfl hl.1 rfl (Nat.le_of_ble_eq_true rfl) rfl hr_40 d_Re_methodLine_166 (fun y_35 s_34 d_36 e_37 H locs h hP hD hS => ?_)
              have hl := lv_sub (l' := [(0, .ref (ad a0)), (4, .int x4j155)]) hl [0, 2] rfl
              obtain ⟨hd, h⟩ := h
              refine lv_aload_n G.1 G.2.1 d_Re_methodLine_169 rfl (lv_at hl 0 rfl) ?_
              obtain ⟨b_41, e_42, c_43, h⟩ := h
              refine ugf (v := .ref (ad b_41)) G hP h_a0 iRe rfl 4 (by decide) rfl q591 rfl (by show va_rf ((sO s_34 a0 4).map ad) = _; rw [e_42]; rfl) d_Re_methodLine_170 ?_
              refine lv_aload_n G.1 G.2.1 d_Re_methodLine_173 rfl (lv_at hl 0 rfl) ?_
              refine ugf (v := .int (sV s_34 a0 9)) G hP h_a0 iRe rfl 9 (by decide) rfl q596 rfl rfl d_Re_methodLine_174 ?_
              refine W.eq (g2 := F0 m 177 ls [.int (sV s_34 a0 9), .ref (ad b_41)]) rfl ?_
              refine lv_bipush (v := 11) G.1 G.2.1 d_Re_methodLine_177 (by decide) ?_
              refine lv_iload G.1 G.2.1 d_Re_methodLine_179 (lv_at hl 1 rfl) ?_
              refine lv_iconst (v := 1) G.1 G.2.1 d_Re_methodLine_181 (by decide) ?_
              refine lv_iadd G.1 G.2.1 d_Re_methodLine_182 ?_
              refine ucVv (As := [.int (sV s_34 a0 9), .int 11, .int (x4j155 + 1)]) (rest := []) G hP hD hS (cu_Wd_set l D g ad y_35 _ s_34 b_41 (sV s_34 a0 9) 11 (x4j155 + 1) H.size c_43 h) w9_Wd_set q1347 ⟨Nat.le_of_ble_eq_true rfl, Nat.le_of_ble_eq_true rfl⟩ rfl rfl c_43 (q := (RWd, TWd, 17)) rfl rfl hl.1 rfl (Nat.le_of_ble_eq_true rfl) rfl hd d_Re_methodLine_183 (fun s_45 H locs h hP hD hS => ?_)
              exact J_186 y_35 s_45 (d_j155 + d_36) (e_j155 + e_37) H locs h hP hD hS ls (lv_sub hl [] rfl)
          refine lv_if_lt (tgt := 155) G.1 G.2.1 d_Re_methodLine_147 (by decide) (fun c147 => ?_) (fun c147 => ?_)
          · skip
            have h := h.1 c147
            exact J_155 y_22 s_32 (d_j105 + d_23) (e_j105 + e_24) x1j105 x4j105 r_20 H locs h hP hD hS ls (lv_sub hl [1, 2, 3, 0] rfl)
          · skip
            have h := h.2 c147
            refine lv_aload_n G.1 G.2.1 d_Re_methodLine_150 rfl (lv_at hl 1 rfl) ?_
            refine lv_iconst (v := 3) G.1 G.2.1 d_Re_methodLine_151 (by decide) ?_
            refine W.eq (g2 := F0 m 152 ls [.int 3, .ref (ad a0)]) rfl ?_
            refine ucVv (As := [.int 3]) (rest := []) G hP hD hS (cu_Re_note l D g ad y_22 _ s_32 a0 3 H.size h_a0 h) w9_Re_note q1337 ⟨Nat.le_of_ble_eq_true rfl, Nat.le_of_ble_eq_true rfl⟩ rfl rfl h_a0 (q := (RRe, TRe, 18)) rfl rfl hl.1 rfl (Nat.le_of_ble_eq_true rfl) rfl hd d_Re_methodLine_152 (fun s_47 H locs h hP hD hS => ?_)
            exact J_155 y_22 s_47 (d_j105 + d_23) (e_j105 + e_24) x1j105 x4j105 r_20 H locs h hP hD hS ls (lv_sub hl [1, 2, 3, 0] rfl)
        · skip
          have h := h.2 c111
          exact hret (y_j105, s_j105, d_j105, e_j105) _ _ _ _ _ ls h hP hD hS (Nat.le_refl _) (Nat.le_refl _) hd.1 hd.2 d_Re_methodLine_114
      refine lv_icmp_ne (tgt := 105) G.1 G.2.1 d_Re_methodLine_96 (by decide) (fun c96 => ?_) (fun c96 => ?_)
      · skip
        have h := h.1 c96
        exact J_105 y_j59 s_19 d_j59 e_j59 x1j59 x2j59 x3j59 r_18 H locs h hP hD hS ls (lv_sub hl [1, 2, 3, 4, 0] rfl)
      · skip
        have h := h.2 c96
        refine lv_aload_n G.1 G.2.1 d_Re_methodLine_99 rfl (lv_at hl 1 rfl) ?_
        refine lv_bipush (v := 12) G.1 G.2.1 d_Re_methodLine_100 (by decide) ?_
        refine ucVv (As := [.int 12]) (rest := []) G hP hD hS (cu_Re_note l D g ad y_j59 _ s_19 a0 12 H.size h_a0 h) w9_Re_note q1337 ⟨Nat.le_of_ble_eq_true rfl, Nat.le_of_ble_eq_true rfl⟩ rfl rfl h_a0 (q := (RRe, TRe, 18)) rfl rfl hl.1 rfl (Nat.le_of_ble_eq_true rfl) rfl hd d_Re_methodLine_102 (fun s_49 H locs h hP hD hS => ?_)
        exact J_105 y_j59 s_49 d_j59 e_j59 x1j59 x2j59 x3j59 r_18 H locs h hP hD hS ls (lv_sub hl [1, 2, 3, 4, 0] rfl)
    · skip
      have h := h.2 c66
      exact hret (y_j59, s_12, d_j59, e_j59) _ _ _ _ _ ls h hP hD hS (Nat.le_refl _) (Nat.le_refl _) hd.1 hd.2 d_Re_methodLine_69
  refine lv_if_eq (tgt := 58) G.1 G.2.1 d_Re_methodLine_51 (by decide) (fun c51 => ?_) (fun c51 => ?_)
  · skip
    have h := h.1 c51
    refine lv_iconst (v := 2) G.1 G.2.1 d_Re_methodLine_58 (by decide) ?_
    exact J_59 y s_11 0 0 r_2 r_4 r_8 2 H locs h hP hD hS ls (lv_sub hl [3, 2, 1, 0] rfl)
  · skip
    have h := h.2 c51
    refine lv_iconst (v := 1) G.1 G.2.1 d_Re_methodLine_54 (by decide) ?_
    refine lv_goto (tgt := 59) G.1 G.2.1 d_Re_methodLine_55 (by decide) ?_
    exact J_59 y s_11 0 0 r_2 r_4 r_8 1 H locs h hP hD hS ls (lv_sub hl [3, 2, 1, 0] rfl)
theorem q1449 : Cond.methodLink "ClassWorks$Reader" 182 y_Re_methodLine ∈ lw_ok := lw_okmem (List.mem_of_getElem? (i := 1449) (by decide +kernel)) rfl
theorem q1452 : Cond.code y_Re_methodLine b_Re_methodLine 6 (none) ∈ lw_ok := lw_okmem (List.mem_of_getElem? (i := 1452) (by decide +kernel)) rfl
theorem q1451 : Cond.instanceMethod y_Re_methodLine ∈ lw_ok := lw_okmem (List.mem_of_getElem? (i := 1451) (by decide +kernel)) rfl
theorem q41 : Cond.selects y_Re_methodLine.cls y_Re_methodLine y_Re_methodLine ∈ lw_ok := lw_okmem (List.mem_of_getElem? (i := 41) (by decide +kernel)) rfl
theorem w9_Re_methodLine : CWv y_Re_methodLine b_Re_methodLine 6 (none) 0 ∧ Cond.instanceMethod y_Re_methodLine ∈ lw_ok ∧ Cond.selects y_Re_methodLine.cls y_Re_methodLine y_Re_methodLine ∈ lw_ok := ⟨⟨q1452, q340, by decide +kernel, by decide +kernel, by decide +kernel⟩, q1451, q41⟩
theorem q1429 : Cond.methodLink "ClassWorks$Reader" 179 y_Re_fieldLine ∈ lw_ok := lw_okmem (List.mem_of_getElem? (i := 1429) (by decide +kernel)) rfl
theorem q1432 : Cond.code y_Re_fieldLine b_Re_fieldLine 7 (none) ∈ lw_ok := lw_okmem (List.mem_of_getElem? (i := 1432) (by decide +kernel)) rfl
theorem q1431 : Cond.instanceMethod y_Re_fieldLine ∈ lw_ok := lw_okmem (List.mem_of_getElem? (i := 1431) (by decide +kernel)) rfl
theorem q39 : Cond.selects y_Re_fieldLine.cls y_Re_fieldLine y_Re_fieldLine ∈ lw_ok := lw_okmem (List.mem_of_getElem? (i := 39) (by decide +kernel)) rfl
theorem w9_Re_fieldLine : CWv y_Re_fieldLine b_Re_fieldLine 7 (none) 0 ∧ Cond.instanceMethod y_Re_fieldLine ∈ lw_ok ∧ Cond.selects y_Re_fieldLine.cls y_Re_fieldLine y_Re_fieldLine ∈ lw_ok := ⟨⟨q1432, q340, by decide +kernel, by decide +kernel, by decide +kernel⟩, q1431, q39⟩
def y_Re_memberLine : MethodName := ⟨"ClassWorks$Reader", "memberLine", "()V"⟩
abbrev b_Re_memberLine : ByteArray := prog_8_method_15_code
theorem d_Re_memberLine_0 : decode b_Re_memberLine 0 = .ok (.aload_n 0, 1) := by decide +kernel
theorem d_Re_memberLine_1 : decode b_Re_memberLine 1 = .ok (.bipush 31, 2) := by decide +kernel
theorem d_Re_memberLine_3 : decode b_Re_memberLine 3 = .ok (.invokevirtual 176, 3) := by decide +kernel
theorem d_Re_memberLine_6 : decode b_Re_memberLine 6 = .ok (.ifCond .eq 10, 3) := by decide +kernel
theorem d_Re_memberLine_9 : decode b_Re_memberLine 9 = .ok (.aload_n 0, 1) := by decide +kernel
theorem d_Re_memberLine_10 : decode b_Re_memberLine 10 = .ok (.invokevirtual 179, 3) := by decide +kernel
theorem d_Re_memberLine_13 : decode b_Re_memberLine 13 = .ok (.goto 37, 3) := by decide +kernel
theorem d_Re_memberLine_16 : decode b_Re_memberLine 16 = .ok (.aload_n 0, 1) := by decide +kernel
theorem d_Re_memberLine_17 : decode b_Re_memberLine 17 = .ok (.bipush 32, 2) := by decide +kernel
theorem d_Re_memberLine_19 : decode b_Re_memberLine 19 = .ok (.invokevirtual 176, 3) := by decide +kernel
theorem d_Re_memberLine_22 : decode b_Re_memberLine 22 = .ok (.ifCond .eq 10, 3) := by decide +kernel
theorem d_Re_memberLine_25 : decode b_Re_memberLine 25 = .ok (.aload_n 0, 1) := by decide +kernel
theorem d_Re_memberLine_26 : decode b_Re_memberLine 26 = .ok (.invokevirtual 182, 3) := by decide +kernel
theorem d_Re_memberLine_29 : decode b_Re_memberLine 29 = .ok (.goto 21, 3) := by decide +kernel
theorem d_Re_memberLine_32 : decode b_Re_memberLine 32 = .ok (.aload_n 0, 1) := by decide +kernel
theorem d_Re_memberLine_33 : decode b_Re_memberLine 33 = .ok (.bipush 36, 2) := by decide +kernel
theorem d_Re_memberLine_35 : decode b_Re_memberLine 35 = .ok (.invokevirtual 144, 3) := by decide +kernel
theorem d_Re_memberLine_38 : decode b_Re_memberLine 38 = .ok (.aload_n 0, 1) := by decide +kernel
theorem d_Re_memberLine_39 : decode b_Re_memberLine 39 = .ok (.bipush 36, 2) := by decide +kernel
theorem d_Re_memberLine_41 : decode b_Re_memberLine 41 = .ok (.invokevirtual 147, 3) := by decide +kernel
theorem d_Re_memberLine_44 : decode b_Re_memberLine 44 = .ok (.pop, 1) := by decide +kernel
theorem d_Re_memberLine_45 : decode b_Re_memberLine 45 = .ok (.aload_n 0, 1) := by decide +kernel
theorem d_Re_memberLine_46 : decode b_Re_memberLine 46 = .ok (.iconst 0, 1) := by decide +kernel
theorem d_Re_memberLine_47 : decode b_Re_memberLine 47 = .ok (.putfield 21, 3) := by decide +kernel
theorem d_Re_memberLine_50 : decode b_Re_memberLine 50 = .ok (.return_, 1) := by decide +kernel
abbrev ra_Re_memberLine (mc ms : Nat) : Room := { frames := 7, cells := mc, slots := ms, locals := 473 }
def wja_Re_memberLine_50 (mc ms : Nat) (Post : Ly → St → Nat → Nat → Prop) (a0 : Nat) (y_j50 : Ly) (s_j50 : St) (d_j50 e_j50 : Nat) : Prop := (d_j50 ≤ mc ∧ e_j50 ≤ ms) ∧ Post y_j50 s_j50 d_j50 e_j50
def wa_Re_memberLine (mc ms : Nat) (y : Ly) (Post : Ly → St → Nat → Nat → Prop) (σ : St) (a0 : Nat) : Prop := wu_Re_isKey y (fun (s_2 : St) (r_1 : Int32) => ((r_1 = 0 → wu_Re_isKey y (fun (s_4 : St) (r_3 : Int32) => ((r_3 = 0 → wu_Re_takeKey y (fun (s_6 : St) => wu_Re_take y (fun (s_8 : St) (r_7 : Int32) => xP (uV s_8 a0 6 0) (fun s_9 : St => wja_Re_memberLine_50 mc ms Post a0 y s_9 0 0)) s_6 a0 36) s_4 a0 36) ∧ (¬ (r_3 = 0) → ∃ mc_15 ms_16 : Nat, (0 + mc_15 ≤ mc ∧ 0 + ms_16 ≤ ms) ∧ wa_Re_methodLine mc_15 ms_16 y (fun (y_12 : Ly) (s_11 : St) (d_13 e_14 : Nat) => (0 + d_13 ≤ mc ∧ 0 + e_14 ≤ ms) ∧ wja_Re_memberLine_50 mc ms Post a0 y_12 s_11 (0 + d_13) (0 + e_14)) s_4 a0))) s_2 a0 32) ∧ (¬ (r_1 = 0) → ∃ mc_23 ms_24 : Nat, (0 + mc_23 ≤ mc ∧ 0 + ms_24 ≤ ms) ∧ wa_Re_fieldLine mc_23 ms_24 y (fun (y_20 : Ly) (s_19 : St) (d_21 e_22 : Nat) => (0 + d_21 ≤ mc ∧ 0 + e_22 ≤ ms) ∧ wja_Re_memberLine_50 mc ms Post a0 y_20 s_19 (0 + d_21) (0 + e_22)) s_2 a0))) σ a0 31
set_option maxHeartbeats 4000000 in
set_option maxRecDepth 100000 in
theorem ca_Re_memberLine (l : Launch) (D : va_G) (g : Nat → ClassId) (ad : Nat → Nat) (mc ms : Nat) (y : Ly) (Post : Ly → St → Nat → Nat → Prop) (σ : St) (a0 : Nat) (sz uz : Nat) (h_a0 : cl a0 = 6) (h : wa_Re_memberLine mc ms y Post σ a0) : Met l y_Re_memberLine (mw y_Re_memberLine b_Re_memberLine 1 (none)) (ra_Re_memberLine mc ms) (PCu g D [] [.ref (ad a0)] sz uz (ws g ad y σ)) (va_Qv (fun (u : Ly × St × Nat × Nat) => Post u.1 u.2.1 u.2.2.1 u.2.2.2) (QU D (va_A (ws g ad y σ) sz) (fun u => ws g ad u.1 u.2.1) sz uz (fun u => u.2.2.1) (fun u => u.2.2.2)) (va_A (ws g ad y σ) sz)) mc ms (va_A (ws g ad y σ) sz) := by
  refine ofVu (by decide +kernel) (Nat.le_of_ble_eq_true rfl) ?_
  intro p e s m args below meth c A Q ls H locs G hsz hP hD hS hl hret
  subst hsz
  have hl : lv_has ls 1 [(0, .ref (ad a0))] := hl
  have hd : 0 ≤ mc ∧ 0 ≤ ms := ⟨Nat.zero_le _, Nat.zero_le _⟩
  unfold wa_Re_memberLine at h
  refine lv_aload_n G.1 G.2.1 d_Re_memberLine_0 rfl (lv_at hl 0 rfl) ?_
  refine lv_bipush (v := 31) G.1 G.2.1 d_Re_memberLine_1 (by decide) ?_
  refine ucVi (As := [.int 31]) (rest := []) G hP hD hS (cu_Re_isKey l D g ad y _ σ a0 31 H.size h_a0 h) w9_Re_isKey q1381 ⟨Nat.le_of_ble_eq_true rfl, Nat.le_of_ble_eq_true rfl⟩ rfl rfl h_a0 (q := (RRe, TRe, 18)) rfl rfl hl.1 rfl (Nat.le_of_ble_eq_true rfl) rfl hd d_Re_memberLine_3 (fun r_1 s_2 H locs h hP hD hS => ?_)
  have J_50 : ∀ (y_j50 : Ly) (s_j50 : St) (d_j50 e_j50 : Nat) (H : Heap) (locs : List Loc), wja_Re_memberLine_50 mc ms Post a0 y_j50 s_j50 d_j50 e_j50 → va_P D CL (ws g ad y_j50 s_j50) H → va_D A (ws g ad y_j50 s_j50) → va_S A s.heap H locs → ∀ ls, lv_has ls 1 [] → W p l e (ra_Re_memberLine mc ms) s m args below meth c H locs d_j50 e_j50 Q (F0 m 50 ls []) := by
    intro y_j50 s_j50 d_j50 e_j50 H locs h hP hD hS ls hl
    unfold wja_Re_memberLine_50 at h
    obtain ⟨hd, h⟩ := h
    exact hret (y_j50, s_j50, d_j50, e_j50) _ _ _ _ _ ls h hP hD hS (Nat.le_refl _) (Nat.le_refl _) hd.1 hd.2 d_Re_memberLine_50
  refine lv_if_eq (tgt := 16) G.1 G.2.1 d_Re_memberLine_6 (by decide) (fun c6 => ?_) (fun c6 => ?_)
  · skip
    have h := h.1 c6
    refine lv_aload_n G.1 G.2.1 d_Re_memberLine_16 rfl (lv_at hl 0 rfl) ?_
    refine lv_bipush (v := 32) G.1 G.2.1 d_Re_memberLine_17 (by decide) ?_
    refine ucVi (As := [.int 32]) (rest := []) G hP hD hS (cu_Re_isKey l D g ad y _ s_2 a0 32 H.size h_a0 h) w9_Re_isKey q1381 ⟨Nat.le_of_ble_eq_true rfl, Nat.le_of_ble_eq_true rfl⟩ rfl rfl h_a0 (q := (RRe, TRe, 18)) rfl rfl hl.1 rfl (Nat.le_of_ble_eq_true rfl) rfl hd d_Re_memberLine_19 (fun r_3 s_4 H locs h hP hD hS => ?_)
    refine lv_if_eq (tgt := 32) G.1 G.2.1 d_Re_memberLine_22 (by decide) (fun c22 => ?_) (fun c22 => ?_)
    · skip
      have h := h.1 c22
      refine lv_aload_n G.1 G.2.1 d_Re_memberLine_32 rfl (lv_at hl 0 rfl) ?_
      refine lv_bipush (v := 36) G.1 G.2.1 d_Re_memberLine_33 (by decide) ?_
      refine ucVv (As := [.int 36]) (rest := []) G hP hD hS (cu_Re_takeKey l D g ad y _ s_4 a0 36 H.size h_a0 h) w9_Re_takeKey q1313 ⟨Nat.le_of_ble_eq_true rfl, Nat.le_of_ble_eq_true rfl⟩ rfl rfl h_a0 (q := (RRe, TRe, 18)) rfl rfl hl.1 rfl (Nat.le_of_ble_eq_true rfl) rfl hd d_Re_memberLine_35 (fun s_6 H locs h hP hD hS => ?_)
      refine W.eq (g2 := F0 m 38 ls []) rfl ?_
      refine lv_aload_n G.1 G.2.1 d_Re_memberLine_38 rfl (lv_at hl 0 rfl) ?_
      refine lv_bipush (v := 36) G.1 G.2.1 d_Re_memberLine_39 (by decide) ?_
      refine ucVi (As := [.int 36]) (rest := []) G hP hD hS (cu_Re_take l D g ad y _ s_6 a0 36 H.size h_a0 h) w9_Re_take q1321 ⟨Nat.le_of_ble_eq_true rfl, Nat.le_of_ble_eq_true rfl⟩ rfl rfl h_a0 (q := (RRe, TRe, 18)) rfl rfl hl.1 rfl (Nat.le_of_ble_eq_true rfl) rfl hd d_Re_memberLine_41 (fun r_7 s_8 H locs h hP hD hS => ?_)
      refine lv_pop G.1 G.2.1 d_Re_memberLine_44 rfl ?_
      refine lv_aload_n G.1 G.2.1 d_Re_memberLine_45 rfl (lv_at hl 0 rfl) ?_
      refine lv_iconst (v := 0) G.1 G.2.1 d_Re_memberLine_46 (by decide) ?_
      refine upf G hP hD hS h 6 putV h_a0 iRe tRe tRe_ok nRe rfl (by decide) rfl q593 rfl rfl fV rfl rfl d_Re_memberLine_47 (fun s_9 H locs h hP hD hS => ?_)
      exact J_50 y s_9 0 0 H locs h hP hD hS ls (lv_sub hl [] rfl)
    · skip
      have h := h.2 c22
      refine lv_aload_n G.1 G.2.1 d_Re_memberLine_25 rfl (lv_at hl 0 rfl) ?_
      obtain ⟨mc_15, ms_16, hr_17, h⟩ := h
      refine uaVv (As := []) (rest := []) G hP hD hS (ca_Re_methodLine l D g ad mc_15 ms_16 y _ s_4 a0 H.size (us H) h_a0 h) w9_Re_methodLine q1449 ⟨Nat.le_of_ble_eq_true rfl, Nat.le_of_ble_eq_true rfl⟩ rfl rfl h_a0 (q := (RRe, TRe, 18)) rfl rfl hl.1 rfl (Nat.le_of_ble_eq_true rfl) rfl hr_17 d_Re_memberLine_26 (fun y_12 s_11 d_13 e_14 H locs h hP hD hS => ?_)
      have hl := lv_sub (l' := []) hl [] rfl
      obtain ⟨hd, h⟩ := h
      refine lv_goto (tgt := 50) G.1 G.2.1 d_Re_memberLine_29 (by decide) ?_
      exact J_50 y_12 s_11 (0 + d_13) (0 + e_14) H locs h hP hD hS ls (lv_sub hl [] rfl)
  · skip
    have h := h.2 c6
    refine lv_aload_n G.1 G.2.1 d_Re_memberLine_9 rfl (lv_at hl 0 rfl) ?_
    obtain ⟨mc_23, ms_24, hr_25, h⟩ := h
    refine uaVv (As := []) (rest := []) G hP hD hS (ca_Re_fieldLine l D g ad mc_23 ms_24 y _ s_2 a0 H.size (us H) h_a0 h) w9_Re_fieldLine q1429 ⟨Nat.le_of_ble_eq_true rfl, Nat.le_of_ble_eq_true rfl⟩ rfl rfl h_a0 (q := (RRe, TRe, 18)) rfl rfl hl.1 rfl (Nat.le_of_ble_eq_true rfl) rfl hr_25 d_Re_memberLine_10 (fun y_20 s_19 d_21 e_22 H locs h hP hD hS => ?_)
    have hl := lv_sub (l' := []) hl [] rfl
    obtain ⟨hd, h⟩ := h
    refine lv_goto (tgt := 50) G.1 G.2.1 d_Re_memberLine_13 (by decide) ?_
    exact J_50 y_20 s_19 (0 + d_21) (0 + e_22) H locs h hP hD hS ls (lv_sub hl [] rfl)
theorem q1425 : Cond.methodLink "ClassWorks$Reader" 128 y_Re_memberLine ∈ lw_ok := lw_okmem (List.mem_of_getElem? (i := 1425) (by decide +kernel)) rfl
theorem q1428 : Cond.code y_Re_memberLine b_Re_memberLine 1 (none) ∈ lw_ok := lw_okmem (List.mem_of_getElem? (i := 1428) (by decide +kernel)) rfl
theorem q1427 : Cond.instanceMethod y_Re_memberLine ∈ lw_ok := lw_okmem (List.mem_of_getElem? (i := 1427) (by decide +kernel)) rfl
theorem q38 : Cond.selects y_Re_memberLine.cls y_Re_memberLine y_Re_memberLine ∈ lw_ok := lw_okmem (List.mem_of_getElem? (i := 38) (by decide +kernel)) rfl
theorem w9_Re_memberLine : CWv y_Re_memberLine b_Re_memberLine 1 (none) 0 ∧ Cond.instanceMethod y_Re_memberLine ∈ lw_ok ∧ Cond.selects y_Re_memberLine.cls y_Re_memberLine y_Re_memberLine ∈ lw_ok := ⟨⟨q1428, q340, by decide +kernel, by decide +kernel, by decide +kernel⟩, q1427, q38⟩
theorem q1420 : Cond.methodLink "ClassWorks$Reader" 125 y_Re_endMethod ∈ lw_ok := lw_okmem (List.mem_of_getElem? (i := 1420) (by decide +kernel)) rfl
theorem q1423 : Cond.code y_Re_endMethod b_Re_endMethod 9 (none) ∈ lw_ok := lw_okmem (List.mem_of_getElem? (i := 1423) (by decide +kernel)) rfl
theorem q1422 : Cond.instanceMethod y_Re_endMethod ∈ lw_ok := lw_okmem (List.mem_of_getElem? (i := 1422) (by decide +kernel)) rfl
theorem q37 : Cond.selects y_Re_endMethod.cls y_Re_endMethod y_Re_endMethod ∈ lw_ok := lw_okmem (List.mem_of_getElem? (i := 37) (by decide +kernel)) rfl
theorem w9_Re_endMethod : CWv y_Re_endMethod b_Re_endMethod 9 (none) 0 ∧ Cond.instanceMethod y_Re_endMethod ∈ lw_ok ∧ Cond.selects y_Re_endMethod.cls y_Re_endMethod y_Re_endMethod ∈ lw_ok := ⟨⟨q1423, q340, by decide +kernel, by decide +kernel, by decide +kernel⟩, q1422, q37⟩
theorem q1368 : Cond.methodLink "ClassWorks$Reader" 122 y_Re_bodyLine ∈ lw_ok := lw_okmem (List.mem_of_getElem? (i := 1368) (by decide +kernel)) rfl
theorem q1371 : Cond.code y_Re_bodyLine b_Re_bodyLine 2 (none) ∈ lw_ok := lw_okmem (List.mem_of_getElem? (i := 1371) (by decide +kernel)) rfl
theorem q1370 : Cond.instanceMethod y_Re_bodyLine ∈ lw_ok := lw_okmem (List.mem_of_getElem? (i := 1370) (by decide +kernel)) rfl
theorem q26 : Cond.selects y_Re_bodyLine.cls y_Re_bodyLine y_Re_bodyLine ∈ lw_ok := lw_okmem (List.mem_of_getElem? (i := 26) (by decide +kernel)) rfl
theorem w9_Re_bodyLine : CWv y_Re_bodyLine b_Re_bodyLine 2 (none) 0 ∧ Cond.instanceMethod y_Re_bodyLine ∈ lw_ok ∧ Cond.selects y_Re_bodyLine.cls y_Re_bodyLine y_Re_bodyLine ∈ lw_ok := ⟨⟨q1371, q340, by decide +kernel, by decide +kernel, by decide +kernel⟩, q1370, q26⟩
theorem q1364 : Cond.methodLink "ClassWorks$Reader" 119 y_Re_isMemberLine ∈ lw_ok := lw_okmem (List.mem_of_getElem? (i := 1364) (by decide +kernel)) rfl
theorem q1367 : Cond.code y_Re_isMemberLine b_Re_isMemberLine 2 (some (.boolean)) ∈ lw_ok := lw_okmem (List.mem_of_getElem? (i := 1367) (by decide +kernel)) rfl
theorem q1366 : Cond.instanceMethod y_Re_isMemberLine ∈ lw_ok := lw_okmem (List.mem_of_getElem? (i := 1366) (by decide +kernel)) rfl
theorem q25 : Cond.selects y_Re_isMemberLine.cls y_Re_isMemberLine y_Re_isMemberLine ∈ lw_ok := lw_okmem (List.mem_of_getElem? (i := 25) (by decide +kernel)) rfl
theorem w9_Re_isMemberLine : CWv y_Re_isMemberLine b_Re_isMemberLine 2 (some (.boolean)) 0 ∧ Cond.instanceMethod y_Re_isMemberLine ∈ lw_ok ∧ Cond.selects y_Re_isMemberLine.cls y_Re_isMemberLine y_Re_isMemberLine ∈ lw_ok := ⟨⟨q1367, q340, by decide +kernel, by decide +kernel, by decide +kernel⟩, q1366, q25⟩
theorem q1351 : Cond.methodLink "ClassWorks$Reader" 112 y_Re_roomLine ∈ lw_ok := lw_okmem (List.mem_of_getElem? (i := 1351) (by decide +kernel)) rfl
theorem q1354 : Cond.code y_Re_roomLine b_Re_roomLine 4 (none) ∈ lw_ok := lw_okmem (List.mem_of_getElem? (i := 1354) (by decide +kernel)) rfl
theorem q1353 : Cond.instanceMethod y_Re_roomLine ∈ lw_ok := lw_okmem (List.mem_of_getElem? (i := 1353) (by decide +kernel)) rfl
theorem q23 : Cond.selects y_Re_roomLine.cls y_Re_roomLine y_Re_roomLine ∈ lw_ok := lw_okmem (List.mem_of_getElem? (i := 23) (by decide +kernel)) rfl
theorem w9_Re_roomLine : CWv y_Re_roomLine b_Re_roomLine 4 (none) 0 ∧ Cond.instanceMethod y_Re_roomLine ∈ lw_ok ∧ Cond.selects y_Re_roomLine.cls y_Re_roomLine y_Re_roomLine ∈ lw_ok := ⟨⟨q1354, q340, by decide +kernel, by decide +kernel, by decide +kernel⟩, q1353, q23⟩
theorem q1305 : Cond.methodLink "ClassWorks$Reader" 109 y_Re_classLine ∈ lw_ok := lw_okmem (List.mem_of_getElem? (i := 1305) (by decide +kernel)) rfl
theorem q1308 : Cond.code y_Re_classLine b_Re_classLine 7 (none) ∈ lw_ok := lw_okmem (List.mem_of_getElem? (i := 1308) (by decide +kernel)) rfl
theorem q1307 : Cond.instanceMethod y_Re_classLine ∈ lw_ok := lw_okmem (List.mem_of_getElem? (i := 1307) (by decide +kernel)) rfl
theorem q15 : Cond.selects y_Re_classLine.cls y_Re_classLine y_Re_classLine ∈ lw_ok := lw_okmem (List.mem_of_getElem? (i := 15) (by decide +kernel)) rfl
theorem w9_Re_classLine : CWv y_Re_classLine b_Re_classLine 7 (none) 0 ∧ Cond.instanceMethod y_Re_classLine ∈ lw_ok ∧ Cond.selects y_Re_classLine.cls y_Re_classLine y_Re_classLine ∈ lw_ok := ⟨⟨q1308, q340, by decide +kernel, by decide +kernel, by decide +kernel⟩, q1307, q15⟩
def y_Re_line : MethodName := ⟨"ClassWorks$Reader", "line", "()V"⟩
abbrev b_Re_line : ByteArray := prog_8_method_5_code
theorem d_Re_line_0 : decode b_Re_line 0 = .ok (.aload_n 0, 1) := by decide +kernel
theorem d_Re_line_1 : decode b_Re_line 1 = .ok (.iconst 0, 1) := by decide +kernel
theorem d_Re_line_2 : decode b_Re_line 2 = .ok (.putfield 24, 3) := by decide +kernel
theorem d_Re_line_5 : decode b_Re_line 5 = .ok (.aload_n 0, 1) := by decide +kernel
theorem d_Re_line_6 : decode b_Re_line 6 = .ok (.iconst 0, 1) := by decide +kernel
theorem d_Re_line_7 : decode b_Re_line 7 = .ok (.putfield 27, 3) := by decide +kernel
theorem d_Re_line_10 : decode b_Re_line 10 = .ok (.aload_n 0, 1) := by decide +kernel
theorem d_Re_line_11 : decode b_Re_line 11 = .ok (.getfield 21, 3) := by decide +kernel
theorem d_Re_line_14 : decode b_Re_line 14 = .ok (.ifCond .ne 10, 3) := by decide +kernel
theorem d_Re_line_17 : decode b_Re_line 17 = .ok (.aload_n 0, 1) := by decide +kernel
theorem d_Re_line_18 : decode b_Re_line 18 = .ok (.invokevirtual 109, 3) := by decide +kernel
theorem d_Re_line_21 : decode b_Re_line 21 = .ok (.goto 63, 3) := by decide +kernel
theorem d_Re_line_24 : decode b_Re_line 24 = .ok (.aload_n 0, 1) := by decide +kernel
theorem d_Re_line_25 : decode b_Re_line 25 = .ok (.getfield 21, 3) := by decide +kernel
theorem d_Re_line_28 : decode b_Re_line 28 = .ok (.iconst 2, 1) := by decide +kernel
theorem d_Re_line_29 : decode b_Re_line 29 = .ok (.if_icmp .ne 10, 3) := by decide +kernel
theorem d_Re_line_32 : decode b_Re_line 32 = .ok (.aload_n 0, 1) := by decide +kernel
theorem d_Re_line_33 : decode b_Re_line 33 = .ok (.invokevirtual 112, 3) := by decide +kernel
theorem d_Re_line_36 : decode b_Re_line 36 = .ok (.goto 48, 3) := by decide +kernel
theorem d_Re_line_39 : decode b_Re_line 39 = .ok (.aload_n 0, 1) := by decide +kernel
theorem d_Re_line_40 : decode b_Re_line 40 = .ok (.getfield 21, 3) := by decide +kernel
theorem d_Re_line_43 : decode b_Re_line 43 = .ok (.iconst 3, 1) := by decide +kernel
theorem d_Re_line_44 : decode b_Re_line 44 = .ok (.if_icmp .ne 24, 3) := by decide +kernel
theorem d_Re_line_47 : decode b_Re_line 47 = .ok (.aload_n 0, 1) := by decide +kernel
theorem d_Re_line_48 : decode b_Re_line 48 = .ok (.invokevirtual 115, 3) := by decide +kernel
theorem d_Re_line_51 : decode b_Re_line 51 = .ok (.ifCond .ne 10, 3) := by decide +kernel
theorem d_Re_line_54 : decode b_Re_line 54 = .ok (.aload_n 0, 1) := by decide +kernel
theorem d_Re_line_55 : decode b_Re_line 55 = .ok (.invokevirtual 119, 3) := by decide +kernel
theorem d_Re_line_58 : decode b_Re_line 58 = .ok (.ifCond .ne 10, 3) := by decide +kernel
theorem d_Re_line_61 : decode b_Re_line 61 = .ok (.aload_n 0, 1) := by decide +kernel
theorem d_Re_line_62 : decode b_Re_line 62 = .ok (.invokevirtual 122, 3) := by decide +kernel
theorem d_Re_line_65 : decode b_Re_line 65 = .ok (.goto 19, 3) := by decide +kernel
theorem d_Re_line_68 : decode b_Re_line 68 = .ok (.aload_n 0, 1) := by decide +kernel
theorem d_Re_line_69 : decode b_Re_line 69 = .ok (.getfield 21, 3) := by decide +kernel
theorem d_Re_line_72 : decode b_Re_line 72 = .ok (.iconst 3, 1) := by decide +kernel
theorem d_Re_line_73 : decode b_Re_line 73 = .ok (.if_icmp .ne 7, 3) := by decide +kernel
theorem d_Re_line_76 : decode b_Re_line 76 = .ok (.aload_n 0, 1) := by decide +kernel
theorem d_Re_line_77 : decode b_Re_line 77 = .ok (.invokevirtual 125, 3) := by decide +kernel
theorem d_Re_line_80 : decode b_Re_line 80 = .ok (.aload_n 0, 1) := by decide +kernel
theorem d_Re_line_81 : decode b_Re_line 81 = .ok (.invokevirtual 128, 3) := by decide +kernel
theorem d_Re_line_84 : decode b_Re_line 84 = .ok (.aload_n 0, 1) := by decide +kernel
theorem d_Re_line_85 : decode b_Re_line 85 = .ok (.getfield 24, 3) := by decide +kernel
theorem d_Re_line_88 : decode b_Re_line 88 = .ok (.ifCond .eq 20, 3) := by decide +kernel
theorem d_Re_line_91 : decode b_Re_line 91 = .ok (.aload_n 0, 1) := by decide +kernel
theorem d_Re_line_92 : decode b_Re_line 92 = .ok (.aload_n 0, 1) := by decide +kernel
theorem d_Re_line_93 : decode b_Re_line 93 = .ok (.getfield 24, 3) := by decide +kernel
theorem d_Re_line_96 : decode b_Re_line 96 = .ok (.aload_n 0, 1) := by decide +kernel
theorem d_Re_line_97 : decode b_Re_line 97 = .ok (.getfield 68, 3) := by decide +kernel
theorem d_Re_line_100 : decode b_Re_line 100 = .ok (.getfield 131, 3) := by decide +kernel
theorem d_Re_line_103 : decode b_Re_line 103 = .ok (.iconst 0, 1) := by decide +kernel
theorem d_Re_line_104 : decode b_Re_line 104 = .ok (.iaload, 1) := by decide +kernel
theorem d_Re_line_105 : decode b_Re_line 105 = .ok (.invokevirtual 96, 3) := by decide +kernel
theorem d_Re_line_108 : decode b_Re_line 108 = .ok (.return_, 1) := by decide +kernel
abbrev ra_Re_line (mc ms : Nat) : Room := { frames := 8, cells := mc, slots := ms, locals := 494 }
def wja_Re_line_108 (mc ms : Nat) (Post : Ly → St → Nat → Nat → Prop) (a0 : Nat) (y_j108 : Ly) (s_j108 : St) (d_j108 e_j108 : Nat) : Prop := (d_j108 ≤ mc ∧ e_j108 ≤ ms) ∧ Post y_j108 s_j108 d_j108 e_j108
def wja_Re_line_84 (mc ms : Nat) (Post : Ly → St → Nat → Nat → Prop) (a0 : Nat) (y_j84 : Ly) (s_j84 : St) (d_j84 e_j84 : Nat) : Prop := (d_j84 ≤ mc ∧ e_j84 ≤ ms) ∧ (((sV s_j84 a0 7) = 0 → wja_Re_line_108 mc ms Post a0 y_j84 s_j84 d_j84 e_j84) ∧ (¬ ((sV s_j84 a0 7) = 0) → xA y_j84 s_j84 (lk a0 3) 2 0 (fun x_3 : Int32 => wu_Re_refuse y_j84 (fun (s_5 : St) => wja_Re_line_108 mc ms Post a0 y_j84 s_5 d_j84 e_j84) s_j84 a0 (sV s_j84 a0 7) x_3)))
def wja_Re_line_80 (mc ms : Nat) (Post : Ly → St → Nat → Nat → Prop) (a0 : Nat) (y_j80 : Ly) (s_j80 : St) (d_j80 e_j80 : Nat) : Prop := (d_j80 ≤ mc ∧ e_j80 ≤ ms) ∧ ∃ mc_11 ms_12 : Nat, (d_j80 + mc_11 ≤ mc ∧ e_j80 + ms_12 ≤ ms) ∧ wa_Re_memberLine mc_11 ms_12 y_j80 (fun (y_8 : Ly) (s_7 : St) (d_9 e_10 : Nat) => (d_j80 + d_9 ≤ mc ∧ e_j80 + e_10 ≤ ms) ∧ wja_Re_line_84 mc ms Post a0 y_8 s_7 (d_j80 + d_9) (e_j80 + e_10)) s_j80 a0
def wja_Re_line_68 (mc ms : Nat) (Post : Ly → St → Nat → Nat → Prop) (a0 : Nat) (y_j68 : Ly) (s_j68 : St) (d_j68 e_j68 : Nat) : Prop := (d_j68 ≤ mc ∧ e_j68 ≤ ms) ∧ ((¬ (sV s_j68 a0 6) = 3 → wja_Re_line_80 mc ms Post a0 y_j68 s_j68 d_j68 e_j68) ∧ ((sV s_j68 a0 6) = 3 → wu_Re_endMethod y_j68 (fun (s_15 : St) => wja_Re_line_80 mc ms Post a0 y_j68 s_15 d_j68 e_j68) s_j68 a0))
def wja_Re_line_61 (mc ms : Nat) (Post : Ly → St → Nat → Nat → Prop) (a0 : Nat) (y_j61 : Ly) (s_j61 : St) (d_j61 e_j61 : Nat) : Prop := (d_j61 ≤ mc ∧ e_j61 ≤ ms) ∧ ∃ mc_23 ms_24 : Nat, (d_j61 + mc_23 ≤ mc ∧ e_j61 + ms_24 ≤ ms) ∧ wa_Re_bodyLine mc_23 ms_24 y_j61 (fun (y_20 : Ly) (s_19 : St) (d_21 e_22 : Nat) => (d_j61 + d_21 ≤ mc ∧ e_j61 + e_22 ≤ ms) ∧ wja_Re_line_84 mc ms Post a0 y_20 s_19 (d_j61 + d_21) (e_j61 + e_22)) s_j61 a0
def wa_Re_line (mc ms : Nat) (y : Ly) (Post : Ly → St → Nat → Nat → Prop) (σ : St) (a0 : Nat) : Prop := xP (uV σ a0 7 0) (fun s_1 : St => xP (uV s_1 a0 8 0) (fun s_2 : St => ((¬ (sV s_2 a0 6) = 0 → ((¬ (sV s_2 a0 6) = 2 → ((¬ (sV s_2 a0 6) = 3 → wja_Re_line_68 mc ms Post a0 y s_2 0 0) ∧ ((sV s_2 a0 6) = 3 → wu_Re_isLabel y (fun (s_17 : St) (r_16 : Int32) => ((¬ r_16 = 0 → wja_Re_line_61 mc ms Post a0 y s_17 0 0) ∧ (r_16 = 0 → wu_Re_isMemberLine y (fun (s_27 : St) (r_26 : Int32) => ((¬ r_26 = 0 → wja_Re_line_68 mc ms Post a0 y s_27 0 0) ∧ (r_26 = 0 → wja_Re_line_61 mc ms Post a0 y s_27 0 0))) s_17 a0))) s_2 a0))) ∧ ((sV s_2 a0 6) = 2 → wu_Re_roomLine y (fun (s_29 : St) => wja_Re_line_84 mc ms Post a0 y s_29 0 0) s_2 a0))) ∧ ((sV s_2 a0 6) = 0 → ∃ mc_35 ms_36 : Nat, (0 + mc_35 ≤ mc ∧ 0 + ms_36 ≤ ms) ∧ wa_Re_classLine mc_35 ms_36 y (fun (y_32 : Ly) (s_31 : St) (d_33 e_34 : Nat) => (0 + d_33 ≤ mc ∧ 0 + e_34 ≤ ms) ∧ wja_Re_line_84 mc ms Post a0 y_32 s_31 (0 + d_33) (0 + e_34)) s_2 a0))))
set_option maxHeartbeats 4000000 in
set_option maxRecDepth 100000 in
theorem ca_Re_line (l : Launch) (D : va_G) (g : Nat → ClassId) (F : Nat → SL) (sl : List SL) (hF : SOK F sl) (ad : Nat → Nat) (mc ms : Nat) (y : Ly) (Post : Ly → St → Nat → Nat → Prop) (σ : St) (a0 : Nat) (sz uz : Nat) (h_a0 : cl a0 = 6) (h : wa_Re_line mc ms y Post σ a0) : Met l y_Re_line (mw y_Re_line b_Re_line 1 (none)) (ra_Re_line mc ms) (PCu g D sl [.ref (ad a0)] sz uz (ws g ad y σ)) (va_Qv (fun (u : Ly × St × Nat × Nat) => Post u.1 u.2.1 u.2.2.1 u.2.2.2) (QU D (va_A (ws g ad y σ) sz) (fun u => ws g ad u.1 u.2.1) sz uz (fun u => u.2.2.1) (fun u => u.2.2.2)) (va_A (ws g ad y σ) sz)) mc ms (va_A (ws g ad y σ) sz) := by
  refine ofVu (by decide +kernel) (Nat.le_of_ble_eq_true rfl) ?_
  intro p e s m args below meth c A Q ls H locs G hsz hP hD hS hl hret
  subst hsz
  have hl : lv_has ls 1 [(0, .ref (ad a0))] := hl
  have hd : 0 ≤ mc ∧ 0 ≤ ms := ⟨Nat.zero_le _, Nat.zero_le _⟩
  unfold wa_Re_line at h
  refine lv_aload_n G.1 G.2.1 d_Re_line_0 rfl (lv_at hl 0 rfl) ?_
  refine lv_iconst (v := 0) G.1 G.2.1 d_Re_line_1 (by decide) ?_
  refine upf G hP hD hS h 7 putV h_a0 iRe tRe tRe_ok nRe rfl (by decide) rfl q594 rfl rfl fV rfl rfl d_Re_line_2 (fun s_1 H locs h hP hD hS => ?_)
  refine lv_aload_n G.1 G.2.1 d_Re_line_5 rfl (lv_at hl 0 rfl) ?_
  refine lv_iconst (v := 0) G.1 G.2.1 d_Re_line_6 (by decide) ?_
  refine upf G hP hD hS h 8 putV h_a0 iRe tRe tRe_ok nRe rfl (by decide) rfl q595 rfl rfl fV rfl rfl d_Re_line_7 (fun s_2 H locs h hP hD hS => ?_)
  refine lv_aload_n G.1 G.2.1 d_Re_line_10 rfl (lv_at hl 0 rfl) ?_
  refine ugf (v := .int (sV s_2 a0 6)) G hP h_a0 iRe rfl 6 (by decide) rfl q593 rfl rfl d_Re_line_11 ?_
  have J_84 : ∀ (y_j84 : Ly) (s_j84 : St) (d_j84 e_j84 : Nat) (H : Heap) (locs : List Loc), wja_Re_line_84 mc ms Post a0 y_j84 s_j84 d_j84 e_j84 → va_P D CL (ws g ad y_j84 s_j84) H → va_D A (ws g ad y_j84 s_j84) → va_S A s.heap H locs → ∀ ls, lv_has ls 1 [(0, .ref (ad a0))] → W p l e (ra_Re_line mc ms) s m args below meth c H locs d_j84 e_j84 Q (F0 m 84 ls []) := by
    intro y_j84 s_j84 d_j84 e_j84 H locs h hP hD hS ls hl
    unfold wja_Re_line_84 at h
    obtain ⟨hd, h⟩ := h
    refine lv_aload_n G.1 G.2.1 d_Re_line_84 rfl (lv_at hl 0 rfl) ?_
    refine ugf (v := .int (sV s_j84 a0 7)) G hP h_a0 iRe rfl 7 (by decide) rfl q594 rfl rfl d_Re_line_85 ?_
    have J_108 : ∀ (y_j108 : Ly) (s_j108 : St) (d_j108 e_j108 : Nat) (H : Heap) (locs : List Loc), wja_Re_line_108 mc ms Post a0 y_j108 s_j108 d_j108 e_j108 → va_P D CL (ws g ad y_j108 s_j108) H → va_D A (ws g ad y_j108 s_j108) → va_S A s.heap H locs → ∀ ls, lv_has ls 1 [] → W p l e (ra_Re_line mc ms) s m args below meth c H locs d_j108 e_j108 Q (F0 m 108 ls []) := by
      intro y_j108 s_j108 d_j108 e_j108 H locs h hP hD hS ls hl
      unfold wja_Re_line_108 at h
      obtain ⟨hd, h⟩ := h
      exact hret (y_j108, s_j108, d_j108, e_j108) _ _ _ _ _ ls h hP hD hS (Nat.le_refl _) (Nat.le_refl _) hd.1 hd.2 d_Re_line_108
    refine lv_if_eq (tgt := 108) G.1 G.2.1 d_Re_line_88 (by decide) (fun c88 => ?_) (fun c88 => ?_)
    · skip
      have h := h.1 c88
      exact J_108 y_j84 s_j84 d_j84 e_j84 H locs h hP hD hS ls (lv_sub hl [] rfl)
    · skip
      have h := h.2 c88
      refine lv_aload_n G.1 G.2.1 d_Re_line_91 rfl (lv_at hl 0 rfl) ?_
      refine lv_aload_n G.1 G.2.1 d_Re_line_92 rfl (lv_at hl 0 rfl) ?_
      refine ugf (v := .int (sV s_j84 a0 7)) G hP h_a0 iRe rfl 7 (by decide) rfl q594 rfl rfl d_Re_line_93 ?_
      refine lv_aload_n G.1 G.2.1 d_Re_line_96 rfl (lv_at hl 0 rfl) ?_
      refine ugf (v := .ref (ad (lk a0 3))) G hP h_a0 iRe rfl 3 (by decide) rfl q590 rfl rfl d_Re_line_97 ?_
      refine ugf (v := .ref (yP y_j84 (lk a0 3) 2)) G hP (lk_6_3 h_a0) iWo rfl 2 (by decide) rfl q552 rfl rfl d_Re_line_100 ?_
      refine lv_iconst (v := 0) G.1 G.2.1 d_Re_line_103 (by decide) ?_
      refine uiald G hP (kdp (lk_6_3 h_a0) rfl) (typ (lk_6_3 h_a0) rfl) h d_Re_line_104 (fun x_3 h => ?_)
      refine W.eq (g2 := F0 m 105 ls [.int x_3, .int (sV s_j84 a0 7), .ref (ad a0)]) rfl ?_
      refine ucVv (As := [.int (sV s_j84 a0 7), .int x_3]) (rest := []) G hP hD hS (cu_Re_refuse l D g ad y_j84 _ s_j84 a0 (sV s_j84 a0 7) x_3 H.size h_a0 h) w9_Re_refuse q1317 ⟨Nat.le_of_ble_eq_true rfl, Nat.le_of_ble_eq_true rfl⟩ rfl rfl h_a0 (q := (RRe, TRe, 18)) rfl rfl hl.1 rfl (Nat.le_of_ble_eq_true rfl) rfl hd d_Re_line_105 (fun s_5 H locs h hP hD hS => ?_)
      exact J_108 y_j84 s_5 d_j84 e_j84 H locs h hP hD hS ls (lv_sub hl [] rfl)
  refine lv_if_ne (tgt := 24) G.1 G.2.1 d_Re_line_14 (by decide) (fun c14 => ?_) (fun c14 => ?_)
  · skip
    have h := h.1 c14
    refine lv_aload_n G.1 G.2.1 d_Re_line_24 rfl (lv_at hl 0 rfl) ?_
    refine ugf (v := .int (sV s_2 a0 6)) G hP h_a0 iRe rfl 6 (by decide) rfl q593 rfl rfl d_Re_line_25 ?_
    refine W.eq (g2 := F0 m 28 ls [.int (sV s_2 a0 6)]) rfl ?_
    refine lv_iconst (v := 2) G.1 G.2.1 d_Re_line_28 (by decide) ?_
    refine lv_icmp_ne (tgt := 39) G.1 G.2.1 d_Re_line_29 (by decide) (fun c29 => ?_) (fun c29 => ?_)
    · skip
      have h := h.1 c29
      refine lv_aload_n G.1 G.2.1 d_Re_line_39 rfl (lv_at hl 0 rfl) ?_
      refine ugf (v := .int (sV s_2 a0 6)) G hP h_a0 iRe rfl 6 (by decide) rfl q593 rfl rfl d_Re_line_40 ?_
      refine lv_iconst (v := 3) G.1 G.2.1 d_Re_line_43 (by decide) ?_
      have J_68 : ∀ (y_j68 : Ly) (s_j68 : St) (d_j68 e_j68 : Nat) (H : Heap) (locs : List Loc), wja_Re_line_68 mc ms Post a0 y_j68 s_j68 d_j68 e_j68 → va_P D CL (ws g ad y_j68 s_j68) H → va_D A (ws g ad y_j68 s_j68) → va_S A s.heap H locs → ∀ ls, lv_has ls 1 [(0, .ref (ad a0))] → W p l e (ra_Re_line mc ms) s m args below meth c H locs d_j68 e_j68 Q (F0 m 68 ls []) := by
        intro y_j68 s_j68 d_j68 e_j68 H locs h hP hD hS ls hl
        unfold wja_Re_line_68 at h
        obtain ⟨hd, h⟩ := h
        refine lv_aload_n G.1 G.2.1 d_Re_line_68 rfl (lv_at hl 0 rfl) ?_
        refine ugf (v := .int (sV s_j68 a0 6)) G hP h_a0 iRe rfl 6 (by decide) rfl q593 rfl rfl d_Re_line_69 ?_
        refine lv_iconst (v := 3) G.1 G.2.1 d_Re_line_72 (by decide) ?_
        have J_80 : ∀ (y_j80 : Ly) (s_j80 : St) (d_j80 e_j80 : Nat) (H : Heap) (locs : List Loc), wja_Re_line_80 mc ms Post a0 y_j80 s_j80 d_j80 e_j80 → va_P D CL (ws g ad y_j80 s_j80) H → va_D A (ws g ad y_j80 s_j80) → va_S A s.heap H locs → ∀ ls, lv_has ls 1 [(0, .ref (ad a0))] → W p l e (ra_Re_line mc ms) s m args below meth c H locs d_j80 e_j80 Q (F0 m 80 ls []) := by
          intro y_j80 s_j80 d_j80 e_j80 H locs h hP hD hS ls hl
          unfold wja_Re_line_80 at h
          obtain ⟨hd, h⟩ := h
          refine lv_aload_n G.1 G.2.1 d_Re_line_80 rfl (lv_at hl 0 rfl) ?_
          obtain ⟨mc_11, ms_12, hr_13, h⟩ := h
          refine uaVv (As := []) (rest := []) G hP hD hS (ca_Re_memberLine l D g ad mc_11 ms_12 y_j80 _ s_j80 a0 H.size (us H) h_a0 h) w9_Re_memberLine q1425 ⟨Nat.le_of_ble_eq_true rfl, Nat.le_of_ble_eq_true rfl⟩ rfl rfl h_a0 (q := (RRe, TRe, 18)) rfl rfl hl.1 rfl (Nat.le_of_ble_eq_true rfl) rfl hr_13 d_Re_line_81 (fun y_8 s_7 d_9 e_10 H locs h hP hD hS => ?_)
          obtain ⟨hd, h⟩ := h
          exact J_84 y_8 s_7 (d_j80 + d_9) (e_j80 + e_10) H locs h hP hD hS ls (lv_sub hl [0] rfl)
        refine lv_icmp_ne (tgt := 80) G.1 G.2.1 d_Re_line_73 (by decide) (fun c73 => ?_) (fun c73 => ?_)
        · skip
          have h := h.1 c73
          exact J_80 y_j68 s_j68 d_j68 e_j68 H locs h hP hD hS ls (lv_sub hl [0] rfl)
        · skip
          have h := h.2 c73
          refine lv_aload_n G.1 G.2.1 d_Re_line_76 rfl (lv_at hl 0 rfl) ?_
          refine ucVv (As := []) (rest := []) G hP hD hS (cu_Re_endMethod l D g ad y_j68 _ s_j68 a0 H.size h_a0 h) w9_Re_endMethod q1420 ⟨Nat.le_of_ble_eq_true rfl, Nat.le_of_ble_eq_true rfl⟩ rfl rfl h_a0 (q := (RRe, TRe, 18)) rfl rfl hl.1 rfl (Nat.le_of_ble_eq_true rfl) rfl hd d_Re_line_77 (fun s_15 H locs h hP hD hS => ?_)
          exact J_80 y_j68 s_15 d_j68 e_j68 H locs h hP hD hS ls (lv_sub hl [0] rfl)
      refine lv_icmp_ne (tgt := 68) G.1 G.2.1 d_Re_line_44 (by decide) (fun c44 => ?_) (fun c44 => ?_)
      · skip
        have h := h.1 c44
        exact J_68 y s_2 0 0 H locs h hP hD hS ls (lv_sub hl [0] rfl)
      · skip
        have h := h.2 c44
        refine lv_aload_n G.1 G.2.1 d_Re_line_47 rfl (lv_at hl 0 rfl) ?_
        refine ucVi (As := []) (rest := []) G hP hD hS (cu_Re_isLabel l D g ad y _ s_2 a0 H.size h_a0 h) w9_Re_isLabel q1360 ⟨Nat.le_of_ble_eq_true rfl, Nat.le_of_ble_eq_true rfl⟩ rfl rfl h_a0 (q := (RRe, TRe, 18)) rfl rfl hl.1 rfl (Nat.le_of_ble_eq_true rfl) rfl hd d_Re_line_48 (fun r_16 s_17 H locs h hP hD hS => ?_)
        have J_61 : ∀ (y_j61 : Ly) (s_j61 : St) (d_j61 e_j61 : Nat) (H : Heap) (locs : List Loc), wja_Re_line_61 mc ms Post a0 y_j61 s_j61 d_j61 e_j61 → va_P D CL (ws g ad y_j61 s_j61) H → va_D A (ws g ad y_j61 s_j61) → va_S A s.heap H locs → ∀ ls, lv_has ls 1 [(0, .ref (ad a0))] → W p l e (ra_Re_line mc ms) s m args below meth c H locs d_j61 e_j61 Q (F0 m 61 ls []) := by
          intro y_j61 s_j61 d_j61 e_j61 H locs h hP hD hS ls hl
          unfold wja_Re_line_61 at h
          obtain ⟨hd, h⟩ := h
          refine lv_aload_n G.1 G.2.1 d_Re_line_61 rfl (lv_at hl 0 rfl) ?_
          obtain ⟨mc_23, ms_24, hr_25, h⟩ := h
          refine utVv (As := []) (rest := []) G hP hD hS (ca_Re_bodyLine l D g F sl hF ad mc_23 ms_24 y_j61 _ s_j61 a0 H.size (us H) h_a0 h) w9_Re_bodyLine q1368 ⟨Nat.le_of_ble_eq_true rfl, Nat.le_of_ble_eq_true rfl⟩ rfl rfl h_a0 (q := (RRe, TRe, 18)) rfl rfl hl.1 rfl (Nat.le_of_ble_eq_true rfl) rfl hr_25 d_Re_line_62 (fun y_20 s_19 d_21 e_22 H locs h hP hD hS => ?_)
          obtain ⟨hd, h⟩ := h
          refine lv_goto (tgt := 84) G.1 G.2.1 d_Re_line_65 (by decide) ?_
          exact J_84 y_20 s_19 (d_j61 + d_21) (e_j61 + e_22) H locs h hP hD hS ls (lv_sub hl [0] rfl)
        refine lv_if_ne (tgt := 61) G.1 G.2.1 d_Re_line_51 (by decide) (fun c51 => ?_) (fun c51 => ?_)
        · skip
          have h := h.1 c51
          exact J_61 y s_17 0 0 H locs h hP hD hS ls (lv_sub hl [0] rfl)
        · skip
          have h := h.2 c51
          refine lv_aload_n G.1 G.2.1 d_Re_line_54 rfl (lv_at hl 0 rfl) ?_
          refine ucVi (As := []) (rest := []) G hP hD hS (cu_Re_isMemberLine l D g ad y _ s_17 a0 H.size h_a0 h) w9_Re_isMemberLine q1364 ⟨Nat.le_of_ble_eq_true rfl, Nat.le_of_ble_eq_true rfl⟩ rfl rfl h_a0 (q := (RRe, TRe, 18)) rfl rfl hl.1 rfl (Nat.le_of_ble_eq_true rfl) rfl hd d_Re_line_55 (fun r_26 s_27 H locs h hP hD hS => ?_)
          refine lv_if_ne (tgt := 68) G.1 G.2.1 d_Re_line_58 (by decide) (fun c58 => ?_) (fun c58 => ?_)
          · skip
            have h := h.1 c58
            exact J_68 y s_27 0 0 H locs h hP hD hS ls (lv_sub hl [0] rfl)
          · skip
            have h := h.2 c58
            exact J_61 y s_27 0 0 H locs h hP hD hS ls (lv_sub hl [0] rfl)
    · skip
      have h := h.2 c29
      refine lv_aload_n G.1 G.2.1 d_Re_line_32 rfl (lv_at hl 0 rfl) ?_
      refine ucVv (As := []) (rest := []) G hP hD hS (cu_Re_roomLine l D g ad y _ s_2 a0 H.size h_a0 h) w9_Re_roomLine q1351 ⟨Nat.le_of_ble_eq_true rfl, Nat.le_of_ble_eq_true rfl⟩ rfl rfl h_a0 (q := (RRe, TRe, 18)) rfl rfl hl.1 rfl (Nat.le_of_ble_eq_true rfl) rfl hd d_Re_line_33 (fun s_29 H locs h hP hD hS => ?_)
      refine lv_goto (tgt := 84) G.1 G.2.1 d_Re_line_36 (by decide) ?_
      exact J_84 y s_29 0 0 H locs h hP hD hS ls (lv_sub hl [0] rfl)
  · skip
    have h := h.2 c14
    refine lv_aload_n G.1 G.2.1 d_Re_line_17 rfl (lv_at hl 0 rfl) ?_
    obtain ⟨mc_35, ms_36, hr_37, h⟩ := h
    refine uaVv (As := []) (rest := []) G hP hD hS (ca_Re_classLine l D g ad mc_35 ms_36 y _ s_2 a0 H.size (us H) h_a0 h) w9_Re_classLine q1305 ⟨Nat.le_of_ble_eq_true rfl, Nat.le_of_ble_eq_true rfl⟩ rfl rfl h_a0 (q := (RRe, TRe, 18)) rfl rfl hl.1 rfl (Nat.le_of_ble_eq_true rfl) rfl hr_37 d_Re_line_18 (fun y_32 s_31 d_33 e_34 H locs h hP hD hS => ?_)
    obtain ⟨hd, h⟩ := h
    refine W.eq (g2 := F0 m 21 ls []) rfl ?_
    refine lv_goto (tgt := 84) G.1 G.2.1 d_Re_line_21 (by decide) ?_
    exact J_84 y_32 s_31 (0 + d_33) (0 + e_34) H locs h hP hD hS ls (lv_sub hl [0] rfl)
theorem q1260 : Cond.methodLink "ClassWorks$Reader" 76 y_Wd_mark ∈ lw_ok := lw_okmem (List.mem_of_getElem? (i := 1260) (by decide +kernel)) rfl
theorem q1263 : Cond.code y_Wd_mark b_Wd_mark 1 (none) ∈ lw_ok := lw_okmem (List.mem_of_getElem? (i := 1263) (by decide +kernel)) rfl
theorem q1261 : Cond.instanceMethod y_Wd_mark ∈ lw_ok := lw_okmem (List.mem_of_getElem? (i := 1261) (by decide +kernel)) rfl
theorem q1262 : Cond.selects y_Wd_mark.cls y_Wd_mark y_Wd_mark ∈ lw_ok := lw_okmem (List.mem_of_getElem? (i := 1262) (by decide +kernel)) rfl
theorem w9_Wd_mark : CWv y_Wd_mark b_Wd_mark 1 (none) 0 ∧ Cond.instanceMethod y_Wd_mark ∈ lw_ok ∧ Cond.selects y_Wd_mark.cls y_Wd_mark y_Wd_mark ∈ lw_ok := ⟨⟨q1263, q345, by decide +kernel, by decide +kernel, by decide +kernel⟩, q1261, q1262⟩
theorem q587 : Cond.fieldLink "ClassWorks$Reader" 15 "ClassWorks$Reader" "came" "I" ∈ lw_ok := lw_okmem (List.mem_of_getElem? (i := 587) (by decide +kernel)) rfl
theorem q1465 : Cond.methodLink "ClassWorks$Reader" 100 y_Wd_backToMark ∈ lw_ok := lw_okmem (List.mem_of_getElem? (i := 1465) (by decide +kernel)) rfl
theorem q1468 : Cond.code y_Wd_backToMark b_Wd_backToMark 1 (none) ∈ lw_ok := lw_okmem (List.mem_of_getElem? (i := 1468) (by decide +kernel)) rfl
theorem q1466 : Cond.instanceMethod y_Wd_backToMark ∈ lw_ok := lw_okmem (List.mem_of_getElem? (i := 1466) (by decide +kernel)) rfl
theorem q1467 : Cond.selects y_Wd_backToMark.cls y_Wd_backToMark y_Wd_backToMark ∈ lw_ok := lw_okmem (List.mem_of_getElem? (i := 1467) (by decide +kernel)) rfl
theorem w9_Wd_backToMark : CWv y_Wd_backToMark b_Wd_backToMark 1 (none) 0 ∧ Cond.instanceMethod y_Wd_backToMark ∈ lw_ok ∧ Cond.selects y_Wd_backToMark.cls y_Wd_backToMark y_Wd_backToMark ∈ lw_ok := ⟨⟨q1468, q345, by decide +kernel, by decide +kernel, by decide +kernel⟩, q1466, q1467⟩
theorem q1264 : Cond.methodLink "ClassWorks$Reader" 84 y_Wo_load ∈ lw_ok := lw_okmem (List.mem_of_getElem? (i := 1264) (by decide +kernel)) rfl
theorem q1267 : Cond.code y_Wo_load b_Wo_load 5 (some (.boolean)) ∈ lw_ok := lw_okmem (List.mem_of_getElem? (i := 1267) (by decide +kernel)) rfl
theorem q1265 : Cond.instanceMethod y_Wo_load ∈ lw_ok := lw_okmem (List.mem_of_getElem? (i := 1265) (by decide +kernel)) rfl
theorem q1266 : Cond.selects y_Wo_load.cls y_Wo_load y_Wo_load ∈ lw_ok := lw_okmem (List.mem_of_getElem? (i := 1266) (by decide +kernel)) rfl
theorem w9_Wo_load : CWv y_Wo_load b_Wo_load 5 (some (.boolean)) 3 ∧ Cond.instanceMethod y_Wo_load ∈ lw_ok ∧ Cond.selects y_Wo_load.cls y_Wo_load y_Wo_load ∈ lw_ok := ⟨⟨q1267, q339, by decide +kernel, by decide +kernel, by decide +kernel⟩, q1265, q1266⟩
theorem q554 : Cond.fieldLink "ClassWorks$Reader" 93 "ClassWorks$Words" "after" "I" ∈ lw_ok := lw_okmem (List.mem_of_getElem? (i := 554) (by decide +kernel)) rfl
theorem q1301 : Cond.methodLink "ClassWorks$Reader" 90 y_Re_line ∈ lw_ok := lw_okmem (List.mem_of_getElem? (i := 1301) (by decide +kernel)) rfl
theorem q1304 : Cond.code y_Re_line b_Re_line 1 (none) ∈ lw_ok := lw_okmem (List.mem_of_getElem? (i := 1304) (by decide +kernel)) rfl
theorem q1303 : Cond.instanceMethod y_Re_line ∈ lw_ok := lw_okmem (List.mem_of_getElem? (i := 1303) (by decide +kernel)) rfl
theorem q14 : Cond.selects y_Re_line.cls y_Re_line y_Re_line ∈ lw_ok := lw_okmem (List.mem_of_getElem? (i := 14) (by decide +kernel)) rfl
theorem w9_Re_line : CWv y_Re_line b_Re_line 1 (none) 0 ∧ Cond.instanceMethod y_Re_line ∈ lw_ok ∧ Cond.selects y_Re_line.cls y_Re_line y_Re_line ∈ lw_ok := ⟨⟨q1304, q340, by decide +kernel, by decide +kernel, by decide +kernel⟩, q1303, q14⟩
def y_Re_read : MethodName := ⟨"ClassWorks$Reader", "read", "(LClassWorks$World;[BII)I"⟩
abbrev b_Re_read : ByteArray := prog_8_method_2_code
theorem d_Re_read_0 : decode b_Re_read 0 = .ok (.aload_n 0, 1) := by decide +kernel
theorem d_Re_read_1 : decode b_Re_read 1 = .ok (.aload_n 1, 1) := by decide +kernel
theorem d_Re_read_2 : decode b_Re_read 2 = .ok (.putfield 72, 3) := by decide +kernel
theorem d_Re_read_5 : decode b_Re_read 5 = .ok (.aload_n 0, 1) := by decide +kernel
theorem d_Re_read_6 : decode b_Re_read 6 = .ok (.iconst 0, 1) := by decide +kernel
theorem d_Re_read_7 : decode b_Re_read 7 = .ok (.putfield 18, 3) := by decide +kernel
theorem d_Re_read_10 : decode b_Re_read 10 = .ok (.aload_n 0, 1) := by decide +kernel
theorem d_Re_read_11 : decode b_Re_read 11 = .ok (.iconst 0, 1) := by decide +kernel
theorem d_Re_read_12 : decode b_Re_read 12 = .ok (.putfield 21, 3) := by decide +kernel
theorem d_Re_read_15 : decode b_Re_read 15 = .ok (.aload_n 1, 1) := by decide +kernel
theorem d_Re_read_16 : decode b_Re_read 16 = .ok (.invokevirtual 76, 3) := by decide +kernel
theorem d_Re_read_19 : decode b_Re_read 19 = .ok (.aload_n 1, 1) := by decide +kernel
theorem d_Re_read_20 : decode b_Re_read 20 = .ok (.getfield 81, 3) := by decide +kernel
theorem d_Re_read_23 : decode b_Re_read 23 = .ok (.istore 5, 2) := by decide +kernel
theorem d_Re_read_25 : decode b_Re_read 25 = .ok (.iload_n 3, 1) := by decide +kernel
theorem d_Re_read_26 : decode b_Re_read 26 = .ok (.istore 6, 2) := by decide +kernel
theorem d_Re_read_28 : decode b_Re_read 28 = .ok (.iload 6, 2) := by decide +kernel
theorem d_Re_read_30 : decode b_Re_read 30 = .ok (.iload 4, 2) := by decide +kernel
theorem d_Re_read_32 : decode b_Re_read 32 = .ok (.if_icmp .ge 41, 3) := by decide +kernel
theorem d_Re_read_35 : decode b_Re_read 35 = .ok (.aload_n 0, 1) := by decide +kernel
theorem d_Re_read_36 : decode b_Re_read 36 = .ok (.getfield 18, 3) := by decide +kernel
theorem d_Re_read_39 : decode b_Re_read 39 = .ok (.ifCond .ne 34, 3) := by decide +kernel
theorem d_Re_read_42 : decode b_Re_read 42 = .ok (.aload_n 0, 1) := by decide +kernel
theorem d_Re_read_43 : decode b_Re_read 43 = .ok (.getfield 68, 3) := by decide +kernel
theorem d_Re_read_46 : decode b_Re_read 46 = .ok (.aload_n 2, 1) := by decide +kernel
theorem d_Re_read_47 : decode b_Re_read 47 = .ok (.iload 6, 2) := by decide +kernel
theorem d_Re_read_49 : decode b_Re_read 49 = .ok (.iload 4, 2) := by decide +kernel
theorem d_Re_read_51 : decode b_Re_read 51 = .ok (.invokevirtual 84, 3) := by decide +kernel
theorem d_Re_read_54 : decode b_Re_read 54 = .ok (.ifCond .eq 7, 3) := by decide +kernel
theorem d_Re_read_57 : decode b_Re_read 57 = .ok (.aload_n 0, 1) := by decide +kernel
theorem d_Re_read_58 : decode b_Re_read 58 = .ok (.invokevirtual 90, 3) := by decide +kernel
theorem d_Re_read_61 : decode b_Re_read 61 = .ok (.aload_n 0, 1) := by decide +kernel
theorem d_Re_read_62 : decode b_Re_read 62 = .ok (.getfield 68, 3) := by decide +kernel
theorem d_Re_read_65 : decode b_Re_read 65 = .ok (.getfield 93, 3) := by decide +kernel
theorem d_Re_read_68 : decode b_Re_read 68 = .ok (.istore 6, 2) := by decide +kernel
theorem d_Re_read_70 : decode b_Re_read 70 = .ok (.goto (-42), 3) := by decide +kernel
theorem d_Re_read_73 : decode b_Re_read 73 = .ok (.aload_n 0, 1) := by decide +kernel
theorem d_Re_read_74 : decode b_Re_read 74 = .ok (.getfield 21, 3) := by decide +kernel
theorem d_Re_read_77 : decode b_Re_read 77 = .ok (.ifCond .eq 10, 3) := by decide +kernel
theorem d_Re_read_80 : decode b_Re_read 80 = .ok (.aload_n 0, 1) := by decide +kernel
theorem d_Re_read_81 : decode b_Re_read 81 = .ok (.iconst 1, 1) := by decide +kernel
theorem d_Re_read_82 : decode b_Re_read 82 = .ok (.iload 4, 2) := by decide +kernel
theorem d_Re_read_84 : decode b_Re_read 84 = .ok (.invokevirtual 96, 3) := by decide +kernel
theorem d_Re_read_87 : decode b_Re_read 87 = .ok (.aload_n 0, 1) := by decide +kernel
theorem d_Re_read_88 : decode b_Re_read 88 = .ok (.getfield 18, 3) := by decide +kernel
theorem d_Re_read_91 : decode b_Re_read 91 = .ok (.ifCond .eq 7, 3) := by decide +kernel
theorem d_Re_read_94 : decode b_Re_read 94 = .ok (.aload_n 1, 1) := by decide +kernel
theorem d_Re_read_95 : decode b_Re_read 95 = .ok (.invokevirtual 100, 3) := by decide +kernel
theorem d_Re_read_98 : decode b_Re_read 98 = .ok (.aload_n 0, 1) := by decide +kernel
theorem d_Re_read_99 : decode b_Re_read 99 = .ok (.aload_n 1, 1) := by decide +kernel
theorem d_Re_read_100 : decode b_Re_read 100 = .ok (.getfield 81, 3) := by decide +kernel
theorem d_Re_read_103 : decode b_Re_read 103 = .ok (.iload 5, 2) := by decide +kernel
theorem d_Re_read_105 : decode b_Re_read 105 = .ok (.isub, 1) := by decide +kernel
theorem d_Re_read_106 : decode b_Re_read 106 = .ok (.putfield 15, 3) := by decide +kernel
theorem d_Re_read_109 : decode b_Re_read 109 = .ok (.aload_n 0, 1) := by decide +kernel
theorem d_Re_read_110 : decode b_Re_read 110 = .ok (.getfield 18, 3) := by decide +kernel
theorem d_Re_read_113 : decode b_Re_read 113 = .ok (.ireturn, 1) := by decide +kernel
abbrev ra_Re_read (mc ms : Nat) : Room := { frames := 9, cells := mc, slots := ms, locals := 516 }
def wja_Re_read_98 (mc ms : Nat) (Post : Ly → St → Int32 → Nat → Nat → Prop) (a0 : Nat) (a1 : Nat) (a2 : Nat) (k2 : Nat) (y_j98 : Ly) (s_j98 : St) (d_j98 e_j98 : Nat) (x5j98 : Int32) : Prop := (d_j98 ≤ mc ∧ e_j98 ≤ ms) ∧ xP (uV s_j98 a0 1 ((sV s_j98 a1 2) - x5j98)) (fun s_6 : St => Post y_j98 s_6 (sV s_6 a0 5) d_j98 e_j98)
def wja_Re_read_87 (mc ms : Nat) (Post : Ly → St → Int32 → Nat → Nat → Prop) (a0 : Nat) (a1 : Nat) (a2 : Nat) (k2 : Nat) (y_j87 : Ly) (s_j87 : St) (d_j87 e_j87 : Nat) (x5j87 : Int32) : Prop := (d_j87 ≤ mc ∧ e_j87 ≤ ms) ∧ (((sV s_j87 a0 5) = 0 → wja_Re_read_98 mc ms Post a0 a1 a2 k2 y_j87 s_j87 d_j87 e_j87 x5j87) ∧ (¬ ((sV s_j87 a0 5) = 0) → wu_Wd_backToMark y_j87 (fun (s_8 : St) => wja_Re_read_98 mc ms Post a0 a1 a2 k2 y_j87 s_8 d_j87 e_j87 x5j87) s_j87 a1))
def wja_Re_read_73 (mc ms : Nat) (Post : Ly → St → Int32 → Nat → Nat → Prop) (a0 : Nat) (a1 : Nat) (a2 : Nat) (k2 : Nat) (y_j73 : Ly) (s_j73 : St) (d_j73 e_j73 : Nat) (x4j73 : Int32) (x5j73 : Int32) : Prop := (d_j73 ≤ mc ∧ e_j73 ≤ ms) ∧ (((sV s_j73 a0 6) = 0 → wja_Re_read_87 mc ms Post a0 a1 a2 k2 y_j73 s_j73 d_j73 e_j73 x5j73) ∧ (¬ ((sV s_j73 a0 6) = 0) → wu_Re_refuse y_j73 (fun (s_10 : St) => wja_Re_read_87 mc ms Post a0 a1 a2 k2 y_j73 s_10 d_j73 e_j73 x5j73) s_j73 a0 1 x4j73))
def wja_Re_read_61 (mc ms : Nat) (Post : Ly → St → Int32 → Nat → Nat → Prop) (K_28 : Ly → St → Nat → Nat → Int32 → Int32 → Int32 → Prop) (a0 : Nat) (a1 : Nat) (a2 : Nat) (k2 : Nat) (y_j61 : Ly) (s_j61 : St) (d_j61 e_j61 : Nat) (x4j61 : Int32) (x5j61 : Int32) : Prop := (d_j61 ≤ mc ∧ e_j61 ≤ ms) ∧ K_28 y_j61 s_j61 d_j61 e_j61 x4j61 x5j61 (sV s_j61 (lk a0 3) 3)
def wba_Re_read_28 (mc ms : Nat) (Post : Ly → St → Int32 → Nat → Nat → Prop) (K_28 : Ly → St → Nat → Nat → Int32 → Int32 → Int32 → Prop) (a0 : Nat) (a1 : Nat) (a2 : Nat) (k2 : Nat) (y_h28 : Ly) (s_h28 : St) (d_h28 e_h28 : Nat) (x4h28 : Int32) (x5h28 : Int32) (x6h28 : Int32) : Prop := (d_h28 ≤ mc ∧ e_h28 ≤ ms) ∧ ((x4h28 ≤ x6h28 → wja_Re_read_73 mc ms Post a0 a1 a2 k2 y_h28 s_h28 d_h28 e_h28 x4h28 x5h28) ∧ (¬ (x4h28 ≤ x6h28) → ((¬ (sV s_h28 a0 5) = 0 → wja_Re_read_73 mc ms Post a0 a1 a2 k2 y_h28 s_h28 d_h28 e_h28 x4h28 x5h28) ∧ ((sV s_h28 a0 5) = 0 → ∃ mc_16 ms_17 : Nat, (d_h28 + mc_16 ≤ mc ∧ e_h28 + ms_17 ≤ ms) ∧ wa_Wo_load mc_16 ms_17 y_h28 (fun (y_13 : Ly) (s_12 : St) (r_11 : Int32) (d_14 e_15 : Nat) => (d_h28 + d_14 ≤ mc ∧ e_h28 + e_15 ≤ ms) ∧ yP y_h28 a2 k2 = yP y_13 a2 k2 ∧ ((r_11 = 0 → wja_Re_read_61 mc ms Post K_28 a0 a1 a2 k2 y_13 s_12 (d_h28 + d_14) (e_h28 + e_15) x4h28 x5h28) ∧ (¬ (r_11 = 0) → ∃ mc_25 ms_26 : Nat, (d_h28 + d_14 + mc_25 ≤ mc ∧ e_h28 + e_15 + ms_26 ≤ ms) ∧ wa_Re_line mc_25 ms_26 y_13 (fun (y_22 : Ly) (s_21 : St) (d_23 e_24 : Nat) => (d_h28 + d_14 + d_23 ≤ mc ∧ e_h28 + e_15 + e_24 ≤ ms) ∧ yP y_13 a2 k2 = yP y_22 a2 k2 ∧ wja_Re_read_61 mc ms Post K_28 a0 a1 a2 k2 y_22 s_21 (d_h28 + d_14 + d_23) (e_h28 + e_15 + e_24) x4h28 x5h28) s_12 a0))) s_h28 (lk a0 3) a2 k2 x6h28 x4h28))))
def wla_Re_read_28 (mc ms : Nat) (Post : Ly → St → Int32 → Nat → Nat → Prop) (a0 : Nat) (a1 : Nat) (a2 : Nat) (k2 : Nat) (y_h28 : Ly) (s_h28 : St) (d_h28 e_h28 : Nat) (x4h28 : Int32) (x5h28 : Int32) (x6h28 : Int32) : Prop := ∃ (I : Ly → St → Nat → Nat → Int32 → Int32 → Int32 → Prop) (μ : Ly → St → Nat → Nat → Int32 → Int32 → Int32 → Nat), I y_h28 s_h28 d_h28 e_h28 x4h28 x5h28 x6h28 ∧ ∀ (u1 : Ly) (u2 : St) (u3 u4 : Nat) (t0 : Int32) (t1 : Int32) (t2 : Int32), I u1 u2 u3 u4 t0 t1 t2 → wba_Re_read_28 mc ms Post (fun z1 z2 z3 z4 t0q t1q t2q => I z1 z2 z3 z4 t0q t1q t2q ∧ μ z1 z2 z3 z4 t0q t1q t2q < μ u1 u2 u3 u4 t0 t1 t2) a0 a1 a2 k2 u1 u2 u3 u4 t0 t1 t2
def wa_Re_read (mc ms : Nat) (y : Ly) (Post : Ly → St → Int32 → Nat → Nat → Prop) (σ : St) (a0 : Nat) (a1 : Nat) (a2 : Nat) (k2 : Nat) (v3 : Int32) (v4 : Int32) : Prop := xP (uO σ a0 4 (some a1)) (fun s_1 : St => xP (uV s_1 a0 5 0) (fun s_2 : St => xP (uV s_2 a0 6 0) (fun s_3 : St => wu_Wd_mark y (fun (s_5 : St) => wla_Re_read_28 mc ms Post a0 a1 a2 k2 y s_5 0 0 v4 (sV s_5 a1 2) v3) s_3 a1)))
set_option maxHeartbeats 4000000 in
set_option maxRecDepth 100000 in
theorem ca_Re_read (l : Launch) (D : va_G) (g : Nat → ClassId) (F : Nat → SL) (sl : List SL) (hF : SOK F sl) (ad : Nat → Nat) (mc ms : Nat) (y : Ly) (Post : Ly → St → Int32 → Nat → Nat → Prop) (σ : St) (a0 : Nat) (a1 : Nat) (a2 : Nat) (k2 : Nat) (v3 : Int32) (v4 : Int32) (sz uz : Nat) (h_a0 : cl a0 = 6) (h_a1 : cl a1 = 9) (h_a2 : kd (cl a2) k2 = 2 ∧ tyx (cl a2) k2 = 1) (h : wa_Re_read mc ms y Post σ a0 a1 a2 k2 v3 v4) : Met l y_Re_read (mw y_Re_read b_Re_read 7 (some .int)) (ra_Re_read mc ms) (PCu g D sl [.ref (ad a0), .ref (ad a1), .ref (yP y a2 k2), .int v3, .int v4] sz uz (ws g ad y σ)) (va_Qi (fun (r : Int32) (u : Ly × St × Nat × Nat) => Post u.1 u.2.1 r u.2.2.1 u.2.2.2) (QU D (va_A (ws g ad y σ) sz) (fun u => ws g ad u.1 u.2.1) sz uz (fun u => u.2.2.1) (fun u => u.2.2.2)) (va_A (ws g ad y σ) sz)) mc ms (va_A (ws g ad y σ) sz) := by
  refine ofIu (by decide +kernel) (Nat.le_of_ble_eq_true rfl) ?_
  intro p e s m args below meth c A Q ls H locs G hsz hP hD hS hl hret
  subst hsz
  have hl : lv_has ls 7 [(0, .ref (ad a0)), (1, .ref (ad a1)), (2, .ref (yP y a2 k2)), (3, .int v3), (4, .int v4)] := hl
  have hd : 0 ≤ mc ∧ 0 ≤ ms := ⟨Nat.zero_le _, Nat.zero_le _⟩
  unfold wa_Re_read at h
  refine lv_aload_n G.1 G.2.1 d_Re_read_0 rfl (lv_at hl 0 rfl) ?_
  refine lv_aload_n G.1 G.2.1 d_Re_read_1 rfl (lv_at hl 1 rfl) ?_
  refine upf G hP hD hS h 4 putO h_a0 iRe tRe tRe_ok nRe rfl (by decide) rfl q591 rfl rfl fO rfl rfl d_Re_read_2 (fun s_1 H locs h hP hD hS => ?_)
  refine lv_aload_n G.1 G.2.1 d_Re_read_5 rfl (lv_at hl 0 rfl) ?_
  refine lv_iconst (v := 0) G.1 G.2.1 d_Re_read_6 (by decide) ?_
  refine upf G hP hD hS h 5 putV h_a0 iRe tRe tRe_ok nRe rfl (by decide) rfl q592 rfl rfl fV rfl rfl d_Re_read_7 (fun s_2 H locs h hP hD hS => ?_)
  refine lv_aload_n G.1 G.2.1 d_Re_read_10 rfl (lv_at hl 0 rfl) ?_
  refine lv_iconst (v := 0) G.1 G.2.1 d_Re_read_11 (by decide) ?_
  refine upf G hP hD hS h 6 putV h_a0 iRe tRe tRe_ok nRe rfl (by decide) rfl q593 rfl rfl fV rfl rfl d_Re_read_12 (fun s_3 H locs h hP hD hS => ?_)
  refine lv_aload_n G.1 G.2.1 d_Re_read_15 rfl (lv_at hl 1 rfl) ?_
  refine ucVv (As := []) (rest := []) G hP hD hS (cu_Wd_mark l D g ad y _ s_3 a1 H.size h_a1 h) w9_Wd_mark q1260 ⟨Nat.le_of_ble_eq_true rfl, Nat.le_of_ble_eq_true rfl⟩ rfl rfl h_a1 (q := (RWd, TWd, 17)) rfl rfl hl.1 rfl (Nat.le_of_ble_eq_true rfl) rfl hd d_Re_read_16 (fun s_5 H locs h hP hD hS => ?_)
  refine W.eq (g2 := F0 m 19 ls []) rfl ?_
  refine lv_aload_n G.1 G.2.1 d_Re_read_19 rfl (lv_at hl 1 rfl) ?_
  refine ugf (v := .int (sV s_5 a1 2)) G hP h_a1 iWd rfl 2 (by decide) rfl q818 rfl rfl d_Re_read_20 ?_
  refine lv_istore (lv' := [(5, .int (sV s_5 a1 2)), (0, .ref (ad a0)), (1, .ref (ad a1)), (2, .ref (yP y a2 k2)), (3, .int v3), (4, .int v4)]) G.1 G.2.1 d_Re_read_23 hl (by decide) rfl (fun ls hl => ?_)
  refine lv_iload_n G.1 G.2.1 d_Re_read_25 rfl (lv_at hl 4 rfl) ?_
  refine lv_istore (lv' := [(6, .int v3), (5, .int (sV s_5 a1 2)), (0, .ref (ad a0)), (1, .ref (ad a1)), (2, .ref (yP y a2 k2)), (3, .int v3), (4, .int v4)]) G.1 G.2.1 d_Re_read_26 hl (by decide) rfl (fun ls hl => ?_)
  unfold wla_Re_read_28 at h
  obtain ⟨I_28, μ_28, hI_28, hB_28⟩ := h
  have L_28 : ∀ (n_28 : Nat) (y_h28 : Ly) (s_h28 : St) (d_h28 e_h28 : Nat) (x4h28 : Int32) (x5h28 : Int32) (x6h28 : Int32), μ_28 y_h28 s_h28 d_h28 e_h28 x4h28 x5h28 x6h28 < n_28 → I_28 y_h28 s_h28 d_h28 e_h28 x4h28 x5h28 x6h28 → ∀ (H : Heap) (locs : List Loc), va_P D CL (ws g ad y_h28 s_h28) H → va_D A (ws g ad y_h28 s_h28) → va_S A s.heap H locs → ∀ ls, lv_has ls 7 [(0, .ref (ad a0)), (1, .ref (ad a1)), (2, .ref (yP y_h28 a2 k2)), (4, .int x4h28), (5, .int x5h28), (6, .int x6h28)] → W p l e (ra_Re_read mc ms) s m args below meth c H locs d_h28 e_h28 Q (F0 m 28 ls []) := by
    intro n_28
    induction n_28 with
    | zero => intro y_h28 s_h28 d_h28 e_h28 x4h28 x5h28 x6h28 hμ; exact absurd hμ (Nat.not_lt_zero _)
    | succ n_28 ih_28 =>
      intro y_h28 s_h28 d_h28 e_h28 x4h28 x5h28 x6h28 hμ_28 hJ H locs hP hD hS ls hl
      obtain ⟨K_28, hK_28, h⟩ : ∃ K : Ly → St → Nat → Nat → Int32 → Int32 → Int32 → Prop, (∀ z1 z2 z3 z4 (t0 : Int32) (t1 : Int32) (t2 : Int32), K z1 z2 z3 z4 t0 t1 t2 → I_28 z1 z2 z3 z4 t0 t1 t2 ∧ μ_28 z1 z2 z3 z4 t0 t1 t2 < μ_28 y_h28 s_h28 d_h28 e_h28 x4h28 x5h28 x6h28) ∧ wba_Re_read_28 mc ms Post K a0 a1 a2 k2 y_h28 s_h28 d_h28 e_h28 x4h28 x5h28 x6h28 := ⟨_, fun _ _ _ _ _ _ _ h => h, hB_28 y_h28 s_h28 d_h28 e_h28 x4h28 x5h28 x6h28 hJ⟩
      unfold wba_Re_read_28 at h
      obtain ⟨hd, h⟩ := h
      refine lv_iload G.1 G.2.1 d_Re_read_28 (lv_at hl 5 rfl) ?_
      refine lv_iload G.1 G.2.1 d_Re_read_30 (lv_at hl 3 rfl) ?_
      have J_73 : ∀ (y_j73 : Ly) (s_j73 : St) (d_j73 e_j73 : Nat) (x4j73 : Int32) (x5j73 : Int32) (H : Heap) (locs : List Loc), wja_Re_read_73 mc ms Post a0 a1 a2 k2 y_j73 s_j73 d_j73 e_j73 x4j73 x5j73 → va_P D CL (ws g ad y_j73 s_j73) H → va_D A (ws g ad y_j73 s_j73) → va_S A s.heap H locs → ∀ ls, lv_has ls 7 [(0, .ref (ad a0)), (1, .ref (ad a1)), (4, .int x4j73), (5, .int x5j73)] → W p l e (ra_Re_read mc ms) s m args below meth c H locs d_j73 e_j73 Q (F0 m 73 ls []) := by
        intro y_j73 s_j73 d_j73 e_j73 x4j73 x5j73 H locs h hP hD hS ls hl
        unfold wja_Re_read_73 at h
        obtain ⟨hd, h⟩ := h
        refine lv_aload_n G.1 G.2.1 d_Re_read_73 rfl (lv_at hl 0 rfl) ?_
        refine ugf (v := .int (sV s_j73 a0 6)) G hP h_a0 iRe rfl 6 (by decide) rfl q593 rfl rfl d_Re_read_74 ?_
        have J_87 : ∀ (y_j87 : Ly) (s_j87 : St) (d_j87 e_j87 : Nat) (x5j87 : Int32) (H : Heap) (locs : List Loc), wja_Re_read_87 mc ms Post a0 a1 a2 k2 y_j87 s_j87 d_j87 e_j87 x5j87 → va_P D CL (ws g ad y_j87 s_j87) H → va_D A (ws g ad y_j87 s_j87) → va_S A s.heap H locs → ∀ ls, lv_has ls 7 [(0, .ref (ad a0)), (1, .ref (ad a1)), (5, .int x5j87)] → W p l e (ra_Re_read mc ms) s m args below meth c H locs d_j87 e_j87 Q (F0 m 87 ls []) := by
          intro y_j87 s_j87 d_j87 e_j87 x5j87 H locs h hP hD hS ls hl
          unfold wja_Re_read_87 at h
          obtain ⟨hd, h⟩ := h
          refine lv_aload_n G.1 G.2.1 d_Re_read_87 rfl (lv_at hl 0 rfl) ?_
          refine ugf (v := .int (sV s_j87 a0 5)) G hP h_a0 iRe rfl 5 (by decide) rfl q592 rfl rfl d_Re_read_88 ?_
          have J_98 : ∀ (y_j98 : Ly) (s_j98 : St) (d_j98 e_j98 : Nat) (x5j98 : Int32) (H : Heap) (locs : List Loc), wja_Re_read_98 mc ms Post a0 a1 a2 k2 y_j98 s_j98 d_j98 e_j98 x5j98 → va_P D CL (ws g ad y_j98 s_j98) H → va_D A (ws g ad y_j98 s_j98) → va_S A s.heap H locs → ∀ ls, lv_has ls 7 [(0, .ref (ad a0)), (1, .ref (ad a1)), (5, .int x5j98)] → W p l e (ra_Re_read mc ms) s m args below meth c H locs d_j98 e_j98 Q (F0 m 98 ls []) := by
            intro y_j98 s_j98 d_j98 e_j98 x5j98 H locs h hP hD hS ls hl
            unfold wja_Re_read_98 at h
            obtain ⟨hd, h⟩ := h
            refine lv_aload_n G.1 G.2.1 d_Re_read_98 rfl (lv_at hl 0 rfl) ?_
            refine lv_aload_n G.1 G.2.1 d_Re_read_99 rfl (lv_at hl 1 rfl) ?_
            refine ugf (v := .int (sV s_j98 a1 2)) G hP h_a1 iWd rfl 2 (by decide) rfl q818 rfl rfl d_Re_read_100 ?_
            refine lv_iload G.1 G.2.1 d_Re_read_103 (lv_at hl 2 rfl) ?_
            refine lv_isub G.1 G.2.1 d_Re_read_105 ?_
            refine upf G hP hD hS h 1 putV h_a0 iRe tRe tRe_ok nRe rfl (by decide) rfl q587 rfl rfl fV rfl rfl d_Re_read_106 (fun s_6 H locs h hP hD hS => ?_)
            refine lv_aload_n G.1 G.2.1 d_Re_read_109 rfl (lv_at hl 0 rfl) ?_
            refine ugf (v := .int (sV s_6 a0 5)) G hP h_a0 iRe rfl 5 (by decide) rfl q592 rfl rfl d_Re_read_110 ?_
            exact hret _ (y_j98, s_6, d_j98, e_j98) _ _ _ _ _ ls h hP hD hS (Nat.le_refl _) (Nat.le_refl _) hd.1 hd.2 d_Re_read_113
          refine lv_if_eq (tgt := 98) G.1 G.2.1 d_Re_read_91 (by decide) (fun c91 => ?_) (fun c91 => ?_)
          · skip
            have h := h.1 c91
            exact J_98 y_j87 s_j87 d_j87 e_j87 x5j87 H locs h hP hD hS ls (lv_sub hl [0, 1, 2] rfl)
          · skip
            have h := h.2 c91
            refine lv_aload_n G.1 G.2.1 d_Re_read_94 rfl (lv_at hl 1 rfl) ?_
            refine ucVv (As := []) (rest := []) G hP hD hS (cu_Wd_backToMark l D g ad y_j87 _ s_j87 a1 H.size h_a1 h) w9_Wd_backToMark q1465 ⟨Nat.le_of_ble_eq_true rfl, Nat.le_of_ble_eq_true rfl⟩ rfl rfl h_a1 (q := (RWd, TWd, 17)) rfl rfl hl.1 rfl (Nat.le_of_ble_eq_true rfl) rfl hd d_Re_read_95 (fun s_8 H locs h hP hD hS => ?_)
            exact J_98 y_j87 s_8 d_j87 e_j87 x5j87 H locs h hP hD hS ls (lv_sub hl [0, 1, 2] rfl)
        refine lv_if_eq (tgt := 87) G.1 G.2.1 d_Re_read_77 (by decide) (fun c77 => ?_) (fun c77 => ?_)
        · skip
          have h := h.1 c77
          exact J_87 y_j73 s_j73 d_j73 e_j73 x5j73 H locs h hP hD hS ls (lv_sub hl [0, 1, 3] rfl)
        · skip
          have h := h.2 c77
          refine lv_aload_n G.1 G.2.1 d_Re_read_80 rfl (lv_at hl 0 rfl) ?_
          refine lv_iconst (v := 1) G.1 G.2.1 d_Re_read_81 (by decide) ?_
          refine lv_iload G.1 G.2.1 d_Re_read_82 (lv_at hl 2 rfl) ?_
          refine ucVv (As := [.int 1, .int x4j73]) (rest := []) G hP hD hS (cu_Re_refuse l D g ad y_j73 _ s_j73 a0 1 x4j73 H.size h_a0 h) w9_Re_refuse q1317 ⟨Nat.le_of_ble_eq_true rfl, Nat.le_of_ble_eq_true rfl⟩ rfl rfl h_a0 (q := (RRe, TRe, 18)) rfl rfl hl.1 rfl (Nat.le_of_ble_eq_true rfl) rfl hd d_Re_read_84 (fun s_10 H locs h hP hD hS => ?_)
          exact J_87 y_j73 s_10 d_j73 e_j73 x5j73 H locs h hP hD hS ls (lv_sub hl [0, 1, 3] rfl)
      refine lv_icmp_ge (tgt := 73) G.1 G.2.1 d_Re_read_32 (by decide) (fun c32 => ?_) (fun c32 => ?_)
      · skip
        have h := h.1 c32
        exact J_73 y_h28 s_h28 d_h28 e_h28 x4h28 x5h28 H locs h hP hD hS ls (lv_sub hl [0, 1, 3, 4] rfl)
      · skip
        have h := h.2 c32
        refine lv_aload_n G.1 G.2.1 d_Re_read_35 rfl (lv_at hl 0 rfl) ?_
        refine ugf (v := .int (sV s_h28 a0 5)) G hP h_a0 iRe rfl 5 (by decide) rfl q592 rfl rfl d_Re_read_36 ?_
        refine lv_if_ne (tgt := 73) G.1 G.2.1 d_Re_read_39 (by decide) (fun c39 => ?_) (fun c39 => ?_)
        · skip
          have h := h.1 c39
          exact J_73 y_h28 s_h28 d_h28 e_h28 x4h28 x5h28 H locs h hP hD hS ls (lv_sub hl [0, 1, 3, 4] rfl)
        · skip
          have h := h.2 c39
          refine lv_aload_n G.1 G.2.1 d_Re_read_42 rfl (lv_at hl 0 rfl) ?_
          refine ugf (v := .ref (ad (lk a0 3))) G hP h_a0 iRe rfl 3 (by decide) rfl q590 rfl rfl d_Re_read_43 ?_
          refine lv_aload_n G.1 G.2.1 d_Re_read_46 rfl (lv_at hl 2 rfl) ?_
          refine lv_iload G.1 G.2.1 d_Re_read_47 (lv_at hl 5 rfl) ?_
          refine lv_iload G.1 G.2.1 d_Re_read_49 (lv_at hl 3 rfl) ?_
          refine W.eq (g2 := F0 m 51 ls [.int x4h28, .int x6h28, .ref (yP y_h28 a2 k2), .ref (ad (lk a0 3))]) rfl ?_
          obtain ⟨mc_16, ms_17, hr_18, h⟩ := h
          refine uaVi (As := [.ref (yP y_h28 a2 k2), .int x6h28, .int x4h28]) (rest := []) G hP hD hS (ca_Wo_load l D g ad mc_16 ms_17 y_h28 _ s_h28 (lk a0 3) a2 k2 x6h28 x4h28 H.size (us H) (lk_6_3 h_a0) ⟨h_a2.1, h_a2.2⟩ h) w9_Wo_load q1264 ⟨Nat.le_of_ble_eq_true rfl, Nat.le_of_ble_eq_true rfl⟩ rfl rfl (lk_6_3 h_a0) (q := (RWo, TWo, 8)) rfl rfl hl.1 rfl (Nat.le_of_ble_eq_true rfl) rfl hr_18 d_Re_read_51 (fun r_11 y_13 s_12 d_14 e_15 H locs h hP hD hS => ?_)
          have hl := lv_sub (l' := [(0, .ref (ad a0)), (1, .ref (ad a1)), (2, .ref (yP y_h28 a2 k2)), (4, .int x4h28), (5, .int x5h28)]) hl [0, 1, 2, 3, 4] rfl
          obtain ⟨hd, h⟩ := h
          obtain ⟨n_19, h⟩ := h
          rw [n_19] at hl
          have J_61 : ∀ (y_j61 : Ly) (s_j61 : St) (d_j61 e_j61 : Nat) (x4j61 : Int32) (x5j61 : Int32) (H : Heap) (locs : List Loc), wja_Re_read_61 mc ms Post K_28 a0 a1 a2 k2 y_j61 s_j61 d_j61 e_j61 x4j61 x5j61 → va_P D CL (ws g ad y_j61 s_j61) H → va_D A (ws g ad y_j61 s_j61) → va_S A s.heap H locs → ∀ ls, lv_has ls 7 [(0, .ref (ad a0)), (1, .ref (ad a1)), (2, .ref (yP y_j61 a2 k2)), (4, .int x4j61), (5, .int x5j61)] → W p l e (ra_Re_read mc ms) s m args below meth c H locs d_j61 e_j61 Q (F0 m 61 ls []) := by
            intro y_j61 s_j61 d_j61 e_j61 x4j61 x5j61 H locs h hP hD hS ls hl
            unfold wja_Re_read_61 at h
            obtain ⟨hd, h⟩ := h
            refine lv_aload_n G.1 G.2.1 d_Re_read_61 rfl (lv_at hl 0 rfl) ?_
            refine ugf (v := .ref (ad (lk a0 3))) G hP h_a0 iRe rfl 3 (by decide) rfl q590 rfl rfl d_Re_read_62 ?_
            refine ugf (v := .int (sV s_j61 (lk a0 3) 3)) G hP (lk_6_3 h_a0) iWo rfl 3 (by decide) rfl q554 rfl rfl d_Re_read_65 ?_
            refine lv_istore (lv' := [(6, .int (sV s_j61 (lk a0 3) 3)), (0, .ref (ad a0)), (1, .ref (ad a1)), (2, .ref (yP y_j61 a2 k2)), (4, .int x4j61), (5, .int x5j61)]) G.1 G.2.1 d_Re_read_68 hl (by decide) rfl (fun ls hl => ?_)
            refine lv_goto (tgt := 28) G.1 G.2.1 d_Re_read_70 (by decide) ?_
            have h := hK_28 y_j61 s_j61 d_j61 e_j61 x4j61 x5j61 (sV s_j61 (lk a0 3) 3) h
            exact ih_28 y_j61 s_j61 d_j61 e_j61 x4j61 x5j61 (sV s_j61 (lk a0 3) 3) (Nat.lt_of_lt_of_le h.2 (Nat.le_of_lt_succ hμ_28)) h.1 H locs hP hD hS ls (lv_sub hl [1, 2, 3, 4, 5, 0] rfl)
          refine lv_if_eq (tgt := 61) G.1 G.2.1 d_Re_read_54 (by decide) (fun c54 => ?_) (fun c54 => ?_)
          · skip
            have h := h.1 c54
            exact J_61 y_13 s_12 (d_h28 + d_14) (e_h28 + e_15) x4h28 x5h28 H locs h hP hD hS ls (lv_sub hl [0, 1, 2, 3, 4] rfl)
          · skip
            have h := h.2 c54
            refine lv_aload_n G.1 G.2.1 d_Re_read_57 rfl (lv_at hl 0 rfl) ?_
            obtain ⟨mc_25, ms_26, hr_27, h⟩ := h
            refine utVv (As := []) (rest := []) G hP hD hS (ca_Re_line l D g F sl hF ad mc_25 ms_26 y_13 _ s_12 a0 H.size (us H) h_a0 h) w9_Re_line q1301 ⟨Nat.le_of_ble_eq_true rfl, Nat.le_of_ble_eq_true rfl⟩ rfl rfl h_a0 (q := (RRe, TRe, 18)) rfl rfl hl.1 rfl (Nat.le_of_ble_eq_true rfl) rfl hr_27 d_Re_read_58 (fun y_22 s_21 d_23 e_24 H locs h hP hD hS => ?_)
            obtain ⟨hd, h⟩ := h
            obtain ⟨n_28, h⟩ := h
            rw [n_28] at hl
            exact J_61 y_22 s_21 (d_h28 + d_14 + d_23) (e_h28 + e_15 + e_24) x4h28 x5h28 H locs h hP hD hS ls (lv_sub hl [0, 1, 2, 3, 4] rfl)
  exact L_28 _ y s_5 0 0 v4 (sV s_5 a1 2) v3 (Nat.lt_succ_self _) hI_28 H locs hP hD hS ls (lv_sub hl [2, 3, 4, 6, 1, 0] rfl)
theorem q1135 : Cond.fieldLink "ClassWorks" 81 "ClassWorks" "reader" "LClassWorks$Reader;" ∈ lw_ok := lw_okmem (List.mem_of_getElem? (i := 1135) (by decide +kernel)) rfl
theorem q1256 : Cond.methodLink "ClassWorks" 140 y_Re_read ∈ lw_ok := lw_okmem (List.mem_of_getElem? (i := 1256) (by decide +kernel)) rfl
theorem q1259 : Cond.code y_Re_read b_Re_read 7 (some .int) ∈ lw_ok := lw_okmem (List.mem_of_getElem? (i := 1259) (by decide +kernel)) rfl
theorem q1257 : Cond.instanceMethod y_Re_read ∈ lw_ok := lw_okmem (List.mem_of_getElem? (i := 1257) (by decide +kernel)) rfl
theorem q1258 : Cond.selects y_Re_read.cls y_Re_read y_Re_read ∈ lw_ok := lw_okmem (List.mem_of_getElem? (i := 1258) (by decide +kernel)) rfl
theorem w9_Re_read : CWv y_Re_read b_Re_read 7 (some .int) 4 ∧ Cond.instanceMethod y_Re_read ∈ lw_ok ∧ Cond.selects y_Re_read.cls y_Re_read y_Re_read ∈ lw_ok := ⟨⟨q1259, q340, by decide +kernel, by decide +kernel, by decide +kernel⟩, q1257, q1258⟩
def y_Cw_define : MethodName := ⟨"ClassWorks", "define", "(I)I"⟩
abbrev b_Cw_define : ByteArray := prog_1_method_10_code
theorem q588 : Cond.fieldLink "ClassWorks" 147 "ClassWorks$Reader" "came" "I" ∈ lw_ok := lw_okmem (List.mem_of_getElem? (i := 588) (by decide +kernel)) rfl
theorem q586 : Cond.fieldLink "ClassWorks" 144 "ClassWorks$Reader" "spot" "I" ∈ lw_ok := lw_okmem (List.mem_of_getElem? (i := 586) (by decide +kernel)) rfl
theorem d_Cw_define_0 : decode b_Cw_define 0 = .ok (.aload_n 0, 1) := by decide +kernel
theorem d_Cw_define_1 : decode b_Cw_define 1 = .ok (.iload_n 1, 1) := by decide +kernel
theorem d_Cw_define_2 : decode b_Cw_define 2 = .ok (.invokevirtual 133, 3) := by decide +kernel
theorem d_Cw_define_5 : decode b_Cw_define 5 = .ok (.astore_n 2, 1) := by decide +kernel
theorem d_Cw_define_6 : decode b_Cw_define 6 = .ok (.aload_n 2, 1) := by decide +kernel
theorem d_Cw_define_7 : decode b_Cw_define 7 = .ok (.ifnonnull 5, 3) := by decide +kernel
theorem d_Cw_define_10 : decode b_Cw_define 10 = .ok (.iconst (-1), 1) := by decide +kernel
theorem d_Cw_define_11 : decode b_Cw_define 11 = .ok (.ireturn, 1) := by decide +kernel
theorem d_Cw_define_12 : decode b_Cw_define 12 = .ok (.aload_n 0, 1) := by decide +kernel
theorem d_Cw_define_13 : decode b_Cw_define 13 = .ok (.getfield 81, 3) := by decide +kernel
theorem d_Cw_define_16 : decode b_Cw_define 16 = .ok (.aload_n 2, 1) := by decide +kernel
theorem d_Cw_define_17 : decode b_Cw_define 17 = .ok (.aload_n 0, 1) := by decide +kernel
theorem d_Cw_define_18 : decode b_Cw_define 18 = .ok (.getfield 17, 3) := by decide +kernel
theorem d_Cw_define_21 : decode b_Cw_define 21 = .ok (.iconst 0, 1) := by decide +kernel
theorem d_Cw_define_22 : decode b_Cw_define 22 = .ok (.aload_n 0, 1) := by decide +kernel
theorem d_Cw_define_23 : decode b_Cw_define 23 = .ok (.getfield 21, 3) := by decide +kernel
theorem d_Cw_define_26 : decode b_Cw_define 26 = .ok (.invokevirtual 140, 3) := by decide +kernel
theorem d_Cw_define_29 : decode b_Cw_define 29 = .ok (.istore_n 3, 1) := by decide +kernel
theorem d_Cw_define_30 : decode b_Cw_define 30 = .ok (.aload_n 0, 1) := by decide +kernel
theorem d_Cw_define_31 : decode b_Cw_define 31 = .ok (.iconst 0, 1) := by decide +kernel
theorem d_Cw_define_32 : decode b_Cw_define 32 = .ok (.putfield 21, 3) := by decide +kernel
theorem d_Cw_define_35 : decode b_Cw_define 35 = .ok (.aload_n 0, 1) := by decide +kernel
theorem d_Cw_define_36 : decode b_Cw_define 36 = .ok (.iload_n 3, 1) := by decide +kernel
theorem d_Cw_define_37 : decode b_Cw_define 37 = .ok (.ifCond .ne 8, 3) := by decide +kernel
theorem d_Cw_define_40 : decode b_Cw_define 40 = .ok (.bipush (-2), 2) := by decide +kernel
theorem d_Cw_define_42 : decode b_Cw_define 42 = .ok (.goto 10, 3) := by decide +kernel
theorem d_Cw_define_45 : decode b_Cw_define 45 = .ok (.aload_n 0, 1) := by decide +kernel
theorem d_Cw_define_46 : decode b_Cw_define 46 = .ok (.getfield 81, 3) := by decide +kernel
theorem d_Cw_define_49 : decode b_Cw_define 49 = .ok (.getfield 144, 3) := by decide +kernel
theorem d_Cw_define_52 : decode b_Cw_define 52 = .ok (.putfield 25, 3) := by decide +kernel
theorem d_Cw_define_55 : decode b_Cw_define 55 = .ok (.iload_n 3, 1) := by decide +kernel
theorem d_Cw_define_56 : decode b_Cw_define 56 = .ok (.ifCond .ne 13, 3) := by decide +kernel
theorem d_Cw_define_59 : decode b_Cw_define 59 = .ok (.aload_n 0, 1) := by decide +kernel
theorem d_Cw_define_60 : decode b_Cw_define 60 = .ok (.getfield 81, 3) := by decide +kernel
theorem d_Cw_define_63 : decode b_Cw_define 63 = .ok (.getfield 147, 3) := by decide +kernel
theorem d_Cw_define_66 : decode b_Cw_define 66 = .ok (.goto 7, 3) := by decide +kernel
theorem d_Cw_define_69 : decode b_Cw_define 69 = .ok (.bipush (-10), 2) := by decide +kernel
theorem d_Cw_define_71 : decode b_Cw_define 71 = .ok (.iload_n 3, 1) := by decide +kernel
theorem d_Cw_define_72 : decode b_Cw_define 72 = .ok (.isub, 1) := by decide +kernel
theorem d_Cw_define_73 : decode b_Cw_define 73 = .ok (.ireturn, 1) := by decide +kernel
abbrev ra_Cw_define (mc ms : Nat) : Room := { frames := 10, cells := mc, slots := ms, locals := 542 }
def wja_Cw_define_73 (mc ms : Nat) (Post : Ly → St → Int32 → Nat → Nat → Prop) (a0 : Nat) (y_j73 : Ly) (s_j73 : St) (d_j73 e_j73 : Nat) (z0j73 : Int32) : Prop := (d_j73 ≤ mc ∧ e_j73 ≤ ms) ∧ Post y_j73 s_j73 z0j73 d_j73 e_j73
def wja_Cw_define_52 (mc ms : Nat) (Post : Ly → St → Int32 → Nat → Nat → Prop) (a0 : Nat) (y_j52 : Ly) (s_j52 : St) (d_j52 e_j52 : Nat) (x3j52 : Int32) (z1j52 : Int32) : Prop := (d_j52 ≤ mc ∧ e_j52 ≤ ms) ∧ xP (uV s_j52 a0 8 z1j52) (fun s_12 : St => ((¬ x3j52 = 0 → wja_Cw_define_73 mc ms Post a0 y_j52 s_12 d_j52 e_j52 ((-10) - x3j52)) ∧ (x3j52 = 0 → wja_Cw_define_73 mc ms Post a0 y_j52 s_12 d_j52 e_j52 (sV s_12 (lk a0 1) 1))))
def wa_Cw_define (mc ms : Nat) (y : Ly) (Post : Ly → St → Int32 → Nat → Nat → Prop) (σ : St) (a0 : Nat) (v1 : Int32) : Prop := wu_Cw_worldOf y (fun (s_2 : St) (r_1 : Option Nat) => ((r_1 = none → Post y s_2 (-1) 0 0) ∧ (∀ r_1b : Nat, r_1 = some r_1b → (cl r_1b = 9 ∧ ∃ mc_8 ms_9 : Nat, (0 + mc_8 ≤ mc ∧ 0 + ms_9 ≤ ms) ∧ wa_Re_read mc_8 ms_9 y (fun (y_5 : Ly) (s_4 : St) (r_3 : Int32) (d_6 e_7 : Nat) => (0 + d_6 ≤ mc ∧ 0 + e_7 ≤ ms) ∧ xP (uV s_4 a0 7 0) (fun s_11 : St => ((¬ r_3 = 0 → wja_Cw_define_52 mc ms Post a0 y_5 s_11 (0 + d_6) (0 + e_7) r_3 (sV s_11 (lk a0 1) 0)) ∧ (r_3 = 0 → wja_Cw_define_52 mc ms Post a0 y_5 s_11 (0 + d_6) (0 + e_7) r_3 (-2))))) s_2 (lk a0 1) r_1b a0 6 0 (sV s_2 a0 7))))) σ a0 v1
set_option maxHeartbeats 4000000 in
set_option maxRecDepth 100000 in
theorem ca_Cw_define (l : Launch) (D : va_G) (g : Nat → ClassId) (F : Nat → SL) (sl : List SL) (hF : SOK F sl) (ad : Nat → Nat) (mc ms : Nat) (y : Ly) (Post : Ly → St → Int32 → Nat → Nat → Prop) (σ : St) (a0 : Nat) (v1 : Int32) (sz uz : Nat) (h_a0 : cl a0 = 11) (h : wa_Cw_define mc ms y Post σ a0 v1) : Met l y_Cw_define (mw y_Cw_define b_Cw_define 4 (some .int)) (ra_Cw_define mc ms) (PCu g D sl [.ref (ad a0), .int v1] sz uz (ws g ad y σ)) (va_Qi (fun (r : Int32) (u : Ly × St × Nat × Nat) => Post u.1 u.2.1 r u.2.2.1 u.2.2.2) (QU D (va_A (ws g ad y σ) sz) (fun u => ws g ad u.1 u.2.1) sz uz (fun u => u.2.2.1) (fun u => u.2.2.2)) (va_A (ws g ad y σ) sz)) mc ms (va_A (ws g ad y σ) sz) := by
  refine ofIu (by decide +kernel) (Nat.le_of_ble_eq_true rfl) ?_
  intro p e s m args below meth c A Q ls H locs G hsz hP hD hS hl hret
  subst hsz
  have hl : lv_has ls 4 [(0, .ref (ad a0)), (1, .int v1)] := hl
  have hd : 0 ≤ mc ∧ 0 ≤ ms := ⟨Nat.zero_le _, Nat.zero_le _⟩
  unfold wa_Cw_define at h
  refine lv_aload_n G.1 G.2.1 d_Cw_define_0 rfl (lv_at hl 0 rfl) ?_
  refine lv_iload_n G.1 G.2.1 d_Cw_define_1 rfl (lv_at hl 1 rfl) ?_
  refine ucVq (As := [.int v1]) (rest := []) G hP hD hS (cu_Cw_worldOf l D g ad y _ σ a0 v1 H.size h_a0 h) w9_Cw_worldOf q1244 ⟨Nat.le_of_ble_eq_true rfl, Nat.le_of_ble_eq_true rfl⟩ rfl rfl h_a0 (q := (RCw, TCw, 20)) rfl rfl hl.1 rfl (Nat.le_of_ble_eq_true rfl) rfl hd d_Cw_define_2 (fun r_1 s_2 H locs h hP hD hS => ?_)
  rcases r_1 with _ | r_1b
  · skip
    have h := h.1 rfl
    show W p l e (ra_Cw_define mc ms) s m args below meth c H locs 0 0 Q (F0 m 5 ls [.null])
    refine lv_astore_nN (lv' := [(2, .null), (0, .ref (ad a0)), (1, .int v1)]) G.1 G.2.1 d_Cw_define_5 rfl hl (by decide) rfl (fun ls hl => ?_)
    refine lv_aload_nN G.1 G.2.1 d_Cw_define_6 rfl (lv_at hl 0 rfl) ?_
    refine lv_ifnonnullN G.1 G.2.1 d_Cw_define_7 ?_
    refine lv_iconst (v := (-1)) G.1 G.2.1 d_Cw_define_10 (by decide) ?_
    exact hret _ (y, s_2, 0, 0) _ _ _ _ _ ls h hP hD hS (Nat.le_refl _) (Nat.le_refl _) hd.1 hd.2 d_Cw_define_11
  · skip
    obtain ⟨c_r_1b, h⟩ := h.2 _ rfl
    show W p l e (ra_Cw_define mc ms) s m args below meth c H locs 0 0 Q (F0 m 5 ls [.ref (ad r_1b)])
    refine lv_astore_n (lv' := [(2, .ref (ad r_1b)), (0, .ref (ad a0)), (1, .int v1)]) G.1 G.2.1 d_Cw_define_5 rfl hl (by decide) rfl (fun ls hl => ?_)
    refine lv_aload_n G.1 G.2.1 d_Cw_define_6 rfl (lv_at hl 0 rfl) ?_
    refine lv_ifnonnull (tgt := 12) G.1 G.2.1 d_Cw_define_7 (by decide) ?_
    refine lv_aload_n G.1 G.2.1 d_Cw_define_12 rfl (lv_at hl 1 rfl) ?_
    refine ugf (v := .ref (ad (lk a0 1))) G hP h_a0 iCw rfl 1 (by decide) rfl q1135 rfl rfl d_Cw_define_13 ?_
    refine lv_aload_n G.1 G.2.1 d_Cw_define_16 rfl (lv_at hl 0 rfl) ?_
    refine lv_aload_n G.1 G.2.1 d_Cw_define_17 rfl (lv_at hl 1 rfl) ?_
    refine ugf (v := .ref (yP y a0 6)) G hP h_a0 iCw rfl 6 (by decide) rfl q1140 rfl rfl d_Cw_define_18 ?_
    refine W.eq (g2 := F0 m 21 ls [.ref (yP y a0 6), .ref (ad r_1b), .ref (ad (lk a0 1))]) rfl ?_
    refine lv_iconst (v := 0) G.1 G.2.1 d_Cw_define_21 (by decide) ?_
    refine lv_aload_n G.1 G.2.1 d_Cw_define_22 rfl (lv_at hl 1 rfl) ?_
    refine ugf (v := .int (sV s_2 a0 7)) G hP h_a0 iCw rfl 7 (by decide) rfl q1141 rfl rfl d_Cw_define_23 ?_
    obtain ⟨mc_8, ms_9, hr_10, h⟩ := h
    refine utVi (As := [.ref (ad r_1b), .ref (yP y a0 6), .int 0, .int (sV s_2 a0 7)]) (rest := []) G hP hD hS (ca_Re_read l D g F sl hF ad mc_8 ms_9 y _ s_2 (lk a0 1) r_1b a0 6 0 (sV s_2 a0 7) H.size (us H) (lk_11_1 h_a0) c_r_1b ⟨(kdp h_a0 rfl), (typ h_a0 rfl)⟩ h) w9_Re_read q1256 ⟨Nat.le_of_ble_eq_true rfl, Nat.le_of_ble_eq_true rfl⟩ rfl rfl (lk_11_1 h_a0) (q := (RRe, TRe, 18)) rfl rfl hl.1 rfl (Nat.le_of_ble_eq_true rfl) rfl hr_10 d_Cw_define_26 (fun r_3 y_5 s_4 d_6 e_7 H locs h hP hD hS => ?_)
    have hl := lv_sub (l' := [(0, .ref (ad a0))]) hl [1] rfl
    obtain ⟨hd, h⟩ := h
    refine lv_istore_n (lv' := [(3, .int r_3), (0, .ref (ad a0))]) G.1 G.2.1 d_Cw_define_29 rfl hl (by decide) rfl (fun ls hl => ?_)
    refine lv_aload_n G.1 G.2.1 d_Cw_define_30 rfl (lv_at hl 1 rfl) ?_
    refine lv_iconst (v := 0) G.1 G.2.1 d_Cw_define_31 (by decide) ?_
    refine upf G hP hD hS h 7 putV h_a0 iCw tCw tCw_ok nCw rfl (by decide) rfl q1141 rfl rfl fV rfl rfl d_Cw_define_32 (fun s_11 H locs h hP hD hS => ?_)
    refine lv_aload_n G.1 G.2.1 d_Cw_define_35 rfl (lv_at hl 1 rfl) ?_
    refine lv_iload_n G.1 G.2.1 d_Cw_define_36 rfl (lv_at hl 0 rfl) ?_
    have J_52 : ∀ (y_j52 : Ly) (s_j52 : St) (d_j52 e_j52 : Nat) (x3j52 : Int32) (z1j52 : Int32) (H : Heap) (locs : List Loc), wja_Cw_define_52 mc ms Post a0 y_j52 s_j52 d_j52 e_j52 x3j52 z1j52 → va_P D CL (ws g ad y_j52 s_j52) H → va_D A (ws g ad y_j52 s_j52) → va_S A s.heap H locs → ∀ ls, lv_has ls 4 [(0, .ref (ad a0)), (3, .int x3j52)] → W p l e (ra_Cw_define mc ms) s m args below meth c H locs d_j52 e_j52 Q (F0 m 52 ls [.int z1j52, .ref (ad a0)]) := by
      intro y_j52 s_j52 d_j52 e_j52 x3j52 z1j52 H locs h hP hD hS ls hl
      unfold wja_Cw_define_52 at h
      obtain ⟨hd, h⟩ := h
      refine upf G hP hD hS h 8 putV h_a0 iCw tCw tCw_ok nCw rfl (by decide) rfl q1142 rfl rfl fV rfl rfl d_Cw_define_52 (fun s_12 H locs h hP hD hS => ?_)
      refine lv_iload_n G.1 G.2.1 d_Cw_define_55 rfl (lv_at hl 1 rfl) ?_
      have J_73 : ∀ (y_j73 : Ly) (s_j73 : St) (d_j73 e_j73 : Nat) (z0j73 : Int32) (H : Heap) (locs : List Loc), wja_Cw_define_73 mc ms Post a0 y_j73 s_j73 d_j73 e_j73 z0j73 → va_P D CL (ws g ad y_j73 s_j73) H → va_D A (ws g ad y_j73 s_j73) → va_S A s.heap H locs → ∀ ls, lv_has ls 4 [] → W p l e (ra_Cw_define mc ms) s m args below meth c H locs d_j73 e_j73 Q (F0 m 73 ls [.int z0j73]) := by
        intro y_j73 s_j73 d_j73 e_j73 z0j73 H locs h hP hD hS ls hl
        unfold wja_Cw_define_73 at h
        obtain ⟨hd, h⟩ := h
        exact hret _ (y_j73, s_j73, d_j73, e_j73) _ _ _ _ _ ls h hP hD hS (Nat.le_refl _) (Nat.le_refl _) hd.1 hd.2 d_Cw_define_73
      refine lv_if_ne (tgt := 69) G.1 G.2.1 d_Cw_define_56 (by decide) (fun c56 => ?_) (fun c56 => ?_)
      · skip
        have h := h.1 c56
        refine lv_bipush (v := (-10)) G.1 G.2.1 d_Cw_define_69 (by decide) ?_
        refine lv_iload_n G.1 G.2.1 d_Cw_define_71 rfl (lv_at hl 1 rfl) ?_
        refine lv_isub G.1 G.2.1 d_Cw_define_72 ?_
        exact J_73 y_j52 s_12 d_j52 e_j52 ((-10) - x3j52) H locs h hP hD hS ls (lv_sub hl [] rfl)
      · skip
        have h := h.2 c56
        refine lv_aload_n G.1 G.2.1 d_Cw_define_59 rfl (lv_at hl 0 rfl) ?_
        refine ugf (v := .ref (ad (lk a0 1))) G hP h_a0 iCw rfl 1 (by decide) rfl q1135 rfl rfl d_Cw_define_60 ?_
        refine ugf (v := .int (sV s_12 (lk a0 1) 1)) G hP (lk_11_1 h_a0) iRe rfl 1 (by decide) rfl q588 rfl rfl d_Cw_define_63 ?_
        refine lv_goto (tgt := 73) G.1 G.2.1 d_Cw_define_66 (by decide) ?_
        exact J_73 y_j52 s_12 d_j52 e_j52 (sV s_12 (lk a0 1) 1) H locs h hP hD hS ls (lv_sub hl [] rfl)
    refine lv_if_ne (tgt := 45) G.1 G.2.1 d_Cw_define_37 (by decide) (fun c37 => ?_) (fun c37 => ?_)
    · skip
      have h := h.1 c37
      refine lv_aload_n G.1 G.2.1 d_Cw_define_45 rfl (lv_at hl 1 rfl) ?_
      refine W.eq (g2 := F0 m 46 ls [.ref (ad a0), .ref (ad a0)]) rfl ?_
      refine ugf (v := .ref (ad (lk a0 1))) G hP h_a0 iCw rfl 1 (by decide) rfl q1135 rfl rfl d_Cw_define_46 ?_
      refine ugf (v := .int (sV s_11 (lk a0 1) 0)) G hP (lk_11_1 h_a0) iRe rfl 0 (by decide) rfl q586 rfl rfl d_Cw_define_49 ?_
      exact J_52 y_5 s_11 (0 + d_6) (0 + e_7) r_3 (sV s_11 (lk a0 1) 0) H locs h hP hD hS ls (lv_sub hl [1, 0] rfl)
    · skip
      have h := h.2 c37
      refine lv_bipush (v := (-2)) G.1 G.2.1 d_Cw_define_40 (by decide) ?_
      refine W.eq (g2 := F0 m 42 ls [.int (-2), .ref (ad a0)]) rfl ?_
      refine lv_goto (tgt := 52) G.1 G.2.1 d_Cw_define_42 (by decide) ?_
      exact J_52 y_5 s_11 (0 + d_6) (0 + e_7) r_3 (-2) H locs h hP hD hS ls (lv_sub hl [1, 0] rfl)
def y_Ck_load : MethodName := ⟨"ClassWorks$Checker", "load", "(I)V"⟩
abbrev b_Ck_load : ByteArray := prog_2_method_3_code
theorem q1602 : Cond.methodLink "ClassWorks$Checker" 122 y_Js_charAt ∈ lw_ok := lw_okmem (List.mem_of_getElem? (i := 1602) (by decide +kernel)) rfl
theorem d_Ck_load_0 : decode b_Ck_load 0 = .ok (.aload_n 0, 1) := by decide +kernel
theorem d_Ck_load_1 : decode b_Ck_load 1 = .ok (.aload_n 0, 1) := by decide +kernel
theorem d_Ck_load_2 : decode b_Ck_load 2 = .ok (.getfield 21, 3) := by decide +kernel
theorem d_Ck_load_5 : decode b_Ck_load 5 = .ok (.iload_n 1, 1) := by decide +kernel
theorem d_Ck_load_6 : decode b_Ck_load 6 = .ok (.iconst 5, 1) := by decide +kernel
theorem d_Ck_load_7 : decode b_Ck_load 7 = .ok (.imul, 1) := by decide +kernel
theorem d_Ck_load_8 : decode b_Ck_load 8 = .ok (.iadd, 1) := by decide +kernel
theorem d_Ck_load_9 : decode b_Ck_load 9 = .ok (.putfield 40, 3) := by decide +kernel
theorem d_Ck_load_12 : decode b_Ck_load 12 = .ok (.aload_n 0, 1) := by decide +kernel
theorem d_Ck_load_13 : decode b_Ck_load 13 = .ok (.aload_n 0, 1) := by decide +kernel
theorem d_Ck_load_14 : decode b_Ck_load 14 = .ok (.getfield 78, 3) := by decide +kernel
theorem d_Ck_load_17 : decode b_Ck_load 17 = .ok (.getfield 113, 3) := by decide +kernel
theorem d_Ck_load_20 : decode b_Ck_load 20 = .ok (.getfield 116, 3) := by decide +kernel
theorem d_Ck_load_23 : decode b_Ck_load 23 = .ok (.aload_n 0, 1) := by decide +kernel
theorem d_Ck_load_24 : decode b_Ck_load 24 = .ok (.getfield 40, 3) := by decide +kernel
theorem d_Ck_load_27 : decode b_Ck_load 27 = .ok (.iaload, 1) := by decide +kernel
theorem d_Ck_load_28 : decode b_Ck_load 28 = .ok (.putfield 43, 3) := by decide +kernel
theorem d_Ck_load_31 : decode b_Ck_load 31 = .ok (.aload_n 0, 1) := by decide +kernel
theorem d_Ck_load_32 : decode b_Ck_load 32 = .ok (.iconst 0, 1) := by decide +kernel
theorem d_Ck_load_33 : decode b_Ck_load 33 = .ok (.putfield 49, 3) := by decide +kernel
theorem d_Ck_load_36 : decode b_Ck_load 36 = .ok (.aload_n 0, 1) := by decide +kernel
theorem d_Ck_load_37 : decode b_Ck_load 37 = .ok (.getfield 43, 3) := by decide +kernel
theorem d_Ck_load_40 : decode b_Ck_load 40 = .ok (.bipush 50, 2) := by decide +kernel
theorem d_Ck_load_42 : decode b_Ck_load 42 = .ok (.if_icmp .lt 80, 3) := by decide +kernel
theorem d_Ck_load_45 : decode b_Ck_load 45 = .ok (.aload_n 0, 1) := by decide +kernel
theorem d_Ck_load_46 : decode b_Ck_load 46 = .ok (.getfield 43, 3) := by decide +kernel
theorem d_Ck_load_49 : decode b_Ck_load 49 = .ok (.bipush 53, 2) := by decide +kernel
theorem d_Ck_load_51 : decode b_Ck_load 51 = .ok (.if_icmp .gt 71, 3) := by decide +kernel
theorem d_Ck_load_54 : decode b_Ck_load 54 = .ok (.aload_n 0, 1) := by decide +kernel
theorem d_Ck_load_55 : decode b_Ck_load 55 = .ok (.getfield 78, 3) := by decide +kernel
theorem d_Ck_load_58 : decode b_Ck_load 58 = .ok (.getfield 113, 3) := by decide +kernel
theorem d_Ck_load_61 : decode b_Ck_load 61 = .ok (.getfield 116, 3) := by decide +kernel
theorem d_Ck_load_64 : decode b_Ck_load 64 = .ok (.aload_n 0, 1) := by decide +kernel
theorem d_Ck_load_65 : decode b_Ck_load 65 = .ok (.getfield 40, 3) := by decide +kernel
theorem d_Ck_load_68 : decode b_Ck_load 68 = .ok (.iconst 2, 1) := by decide +kernel
theorem d_Ck_load_69 : decode b_Ck_load 69 = .ok (.iadd, 1) := by decide +kernel
theorem d_Ck_load_70 : decode b_Ck_load 70 = .ok (.iaload, 1) := by decide +kernel
theorem d_Ck_load_71 : decode b_Ck_load 71 = .ok (.istore_n 2, 1) := by decide +kernel
theorem d_Ck_load_72 : decode b_Ck_load 72 = .ok (.aload_n 0, 1) := by decide +kernel
theorem d_Ck_load_73 : decode b_Ck_load 73 = .ok (.aload_n 0, 1) := by decide +kernel
theorem d_Ck_load_74 : decode b_Ck_load 74 = .ok (.getfield 74, 3) := by decide +kernel
theorem d_Ck_load_77 : decode b_Ck_load 77 = .ok (.iload_n 2, 1) := by decide +kernel
theorem d_Ck_load_78 : decode b_Ck_load 78 = .ok (.invokevirtual 107, 3) := by decide +kernel
theorem d_Ck_load_81 : decode b_Ck_load 81 = .ok (.aload_n 0, 1) := by decide +kernel
theorem d_Ck_load_82 : decode b_Ck_load 82 = .ok (.getfield 43, 3) := by decide +kernel
theorem d_Ck_load_85 : decode b_Ck_load 85 = .ok (.bipush 52, 2) := by decide +kernel
theorem d_Ck_load_87 : decode b_Ck_load 87 = .ok (.if_icmp .ne 7, 3) := by decide +kernel
theorem d_Ck_load_90 : decode b_Ck_load 90 = .ok (.iconst 0, 1) := by decide +kernel
theorem d_Ck_load_91 : decode b_Ck_load 91 = .ok (.goto 4, 3) := by decide +kernel
theorem d_Ck_load_94 : decode b_Ck_load 94 = .ok (.iconst 1, 1) := by decide +kernel
theorem d_Ck_load_95 : decode b_Ck_load 95 = .ok (.iadd, 1) := by decide +kernel
theorem d_Ck_load_96 : decode b_Ck_load 96 = .ok (.putfield 46, 3) := by decide +kernel
theorem d_Ck_load_99 : decode b_Ck_load 99 = .ok (.aload_n 0, 1) := by decide +kernel
theorem d_Ck_load_100 : decode b_Ck_load 100 = .ok (.aload_n 0, 1) := by decide +kernel
theorem d_Ck_load_101 : decode b_Ck_load 101 = .ok (.getfield 74, 3) := by decide +kernel
theorem d_Ck_load_104 : decode b_Ck_load 104 = .ok (.iload_n 2, 1) := by decide +kernel
theorem d_Ck_load_105 : decode b_Ck_load 105 = .ok (.invokevirtual 94, 3) := by decide +kernel
theorem d_Ck_load_108 : decode b_Ck_load 108 = .ok (.bipush 7, 2) := by decide +kernel
theorem d_Ck_load_110 : decode b_Ck_load 110 = .ok (.if_icmp .ne 7, 3) := by decide +kernel
theorem d_Ck_load_113 : decode b_Ck_load 113 = .ok (.iconst 1, 1) := by decide +kernel
theorem d_Ck_load_114 : decode b_Ck_load 114 = .ok (.goto 4, 3) := by decide +kernel
theorem d_Ck_load_117 : decode b_Ck_load 117 = .ok (.iconst 0, 1) := by decide +kernel
theorem d_Ck_load_118 : decode b_Ck_load 118 = .ok (.putfield 49, 3) := by decide +kernel
theorem d_Ck_load_121 : decode b_Ck_load 121 = .ok (.return_, 1) := by decide +kernel
theorem d_Ck_load_122 : decode b_Ck_load 122 = .ok (.aload_n 0, 1) := by decide +kernel
theorem d_Ck_load_123 : decode b_Ck_load 123 = .ok (.iconst 0, 1) := by decide +kernel
theorem d_Ck_load_124 : decode b_Ck_load 124 = .ok (.putfield 46, 3) := by decide +kernel
theorem d_Ck_load_127 : decode b_Ck_load 127 = .ok (.aload_n 0, 1) := by decide +kernel
theorem d_Ck_load_128 : decode b_Ck_load 128 = .ok (.getfield 46, 3) := by decide +kernel
theorem d_Ck_load_131 : decode b_Ck_load 131 = .ok (.iconst 3, 1) := by decide +kernel
theorem d_Ck_load_132 : decode b_Ck_load 132 = .ok (.if_icmp .ge 37, 3) := by decide +kernel
theorem d_Ck_load_135 : decode b_Ck_load 135 = .ok (.ldc 120, 2) := by decide +kernel
theorem d_Ck_load_137 : decode b_Ck_load 137 = .ok (.iconst 3, 1) := by decide +kernel
theorem d_Ck_load_138 : decode b_Ck_load 138 = .ok (.aload_n 0, 1) := by decide +kernel
theorem d_Ck_load_139 : decode b_Ck_load 139 = .ok (.getfield 43, 3) := by decide +kernel
theorem d_Ck_load_142 : decode b_Ck_load 142 = .ok (.imul, 1) := by decide +kernel
theorem d_Ck_load_143 : decode b_Ck_load 143 = .ok (.aload_n 0, 1) := by decide +kernel
theorem d_Ck_load_144 : decode b_Ck_load 144 = .ok (.getfield 46, 3) := by decide +kernel
theorem d_Ck_load_147 : decode b_Ck_load 147 = .ok (.iadd, 1) := by decide +kernel
theorem d_Ck_load_148 : decode b_Ck_load 148 = .ok (.invokevirtual 122, 3) := by decide +kernel
theorem d_Ck_load_151 : decode b_Ck_load 151 = .ok (.bipush 32, 2) := by decide +kernel
theorem d_Ck_load_153 : decode b_Ck_load 153 = .ok (.if_icmp .eq 16, 3) := by decide +kernel
theorem d_Ck_load_156 : decode b_Ck_load 156 = .ok (.aload_n 0, 1) := by decide +kernel
theorem d_Ck_load_157 : decode b_Ck_load 157 = .ok (.dup, 1) := by decide +kernel
theorem d_Ck_load_158 : decode b_Ck_load 158 = .ok (.getfield 46, 3) := by decide +kernel
theorem d_Ck_load_161 : decode b_Ck_load 161 = .ok (.iconst 1, 1) := by decide +kernel
theorem d_Ck_load_162 : decode b_Ck_load 162 = .ok (.iadd, 1) := by decide +kernel
theorem d_Ck_load_163 : decode b_Ck_load 163 = .ok (.putfield 46, 3) := by decide +kernel
theorem d_Ck_load_166 : decode b_Ck_load 166 = .ok (.goto (-39), 3) := by decide +kernel
theorem d_Ck_load_169 : decode b_Ck_load 169 = .ok (.return_, 1) := by decide +kernel
abbrev ru_Ck_load : Room := { frames := 4, cells := 0, slots := 0, locals := 85 }
def wj_Ck_load_169 (y : Ly) (Post : St → Prop) (a0 : Nat) (s_j169 : St) : Prop := Post s_j169
def wb_Ck_load_127 (y : Ly) (Post : St → Prop) (K_127 : St → Prop) (a0 : Nat) (s_h127 : St) : Prop := ((3 ≤ (sV s_h127 a0 13) → wj_Ck_load_169 y Post a0 s_h127) ∧ (¬ (3 ≤ (sV s_h127 a0 13)) → xH 9 ((3 * (sV s_h127 a0 12)) + (sV s_h127 a0 13)) (fun x_10 : Int32 => ((x_10 = 32 → wj_Ck_load_169 y Post a0 s_h127) ∧ (¬ (x_10 = 32) → xP (uV s_h127 a0 13 ((sV s_h127 a0 13) + 1)) (fun s_11 : St => K_127 s_11))))))
def wl_Ck_load_127 (y : Ly) (Post : St → Prop) (a0 : Nat) (s_h127 : St) : Prop := ∃ (I : St → Prop) (μ : St → Nat), I s_h127 ∧ ∀ (u : St), I u  → wb_Ck_load_127 y Post (fun z => I z  ∧ μ z  < μ u ) a0 u
def wj_Ck_load_122 (y : Ly) (Post : St → Prop) (a0 : Nat) (s_j122 : St) : Prop := xP (uV s_j122 a0 13 0) (fun s_9 : St => wl_Ck_load_127 y Post a0 s_9)
def wj_Ck_load_118 (y : Ly) (Post : St → Prop) (a0 : Nat) (s_j118 : St) (z1j118 : Int32) : Prop := nb z1j118 ∧ xP (uV s_j118 a0 14 z1j118) (fun s_22 : St => Post s_22)
def wj_Ck_load_95 (y : Ly) (Post : St → Prop) (a0 : Nat) (s_j95 : St) (x2j95 : Int32) (z1j95 : Int32) (z2j95 : Int32) : Prop := xP (uV s_j95 a0 13 (z1j95 + z2j95)) (fun s_18 : St => wu_Na_nameOf y (fun (s_20 : St) (r_19 : Int32) => ((¬ r_19 = 7 → wj_Ck_load_118 y Post a0 s_20 0) ∧ (r_19 = 7 → wj_Ck_load_118 y Post a0 s_20 1))) s_18 (lk a0 2) x2j95)
def wu_Ck_load (y : Ly) (Post : St → Prop) (σ : St) (a0 : Nat) (v1 : Int32) : Prop := xP (uV σ a0 11 ((sV σ a0 5) + (v1 * 5))) (fun s_1 : St => ∃ b_2 : Nat, sO s_1 a0 3 = some b_2 ∧ cl b_2 = 9 ∧ xA y s_1 (lk b_2 10) 0 (sV s_1 a0 11) (fun x_5 : Int32 => xP (uV s_1 a0 12 x_5) (fun s_6 : St => nb 0 ∧ xP (uV s_6 a0 14 0) (fun s_8 : St => (((sV s_8 a0 12) < 50 → wj_Ck_load_122 y Post a0 s_8) ∧ (¬ ((sV s_8 a0 12) < 50) → ((53 < (sV s_8 a0 12) → wj_Ck_load_122 y Post a0 s_8) ∧ (¬ (53 < (sV s_8 a0 12)) → ∃ b_12 : Nat, sO s_8 a0 3 = some b_12 ∧ cl b_12 = 9 ∧ xA y s_8 (lk b_12 10) 0 ((sV s_8 a0 11) + 2) (fun x_15 : Int32 => wu_Na_argumentsOf y (fun (s_17 : St) (r_16 : Int32) => ((¬ (sV s_17 a0 12) = 52 → wj_Ck_load_95 y Post a0 s_17 x_15 r_16 1) ∧ ((sV s_17 a0 12) = 52 → wj_Ck_load_95 y Post a0 s_17 x_15 r_16 0))) s_8 (lk a0 2) x_15)))))))))
set_option maxHeartbeats 4000000 in
set_option maxRecDepth 100000 in
theorem cu_Ck_load (l : Launch) (D : va_G) (g : Nat → ClassId) (F : Nat → SL) (sl : List SL) (hF : SOK F sl) (ad : Nat → Nat) (y : Ly) (Post : St → Prop) (σ : St) (a0 : Nat) (v1 : Int32) (sz : Nat) (h_a0 : cl a0 = 0) (h : wu_Ck_load y Post σ a0 v1) : Met l y_Ck_load (mw y_Ck_load b_Ck_load 3 (none)) ru_Ck_load (PC g D sl [.ref (ad a0), .int v1] sz (ws g ad y σ)) (va_Qv (fun u : St => Post u) (QW D (va_A (ws g ad y σ) sz) (fun u => ws g ad y u)) (va_A (ws g ad y σ) sz)) 0 0 (va_A (ws g ad y σ) sz) := by
  refine ofV (by decide +kernel) (Nat.le_of_ble_eq_true rfl) ?_
  intro p e s m args below meth c A Q ls H locs G hsz hP hD hS hl hret
  subst hsz
  have hl : lv_has ls 3 [(0, .ref (ad a0)), (1, .int v1)] := hl
  unfold wu_Ck_load at h
  refine lv_aload_n G.1 G.2.1 d_Ck_load_0 rfl (lv_at hl 0 rfl) ?_
  refine lv_aload_n G.1 G.2.1 d_Ck_load_1 rfl (lv_at hl 0 rfl) ?_
  refine ugf (v := .int (sV σ a0 5)) G hP h_a0 iCk rfl 5 (by decide) rfl q656 rfl rfl d_Ck_load_2 ?_
  refine lv_iload_n G.1 G.2.1 d_Ck_load_5 rfl (lv_at hl 1 rfl) ?_
  refine lv_iconst (v := 5) G.1 G.2.1 d_Ck_load_6 (by decide) ?_
  refine lv_imul G.1 G.2.1 d_Ck_load_7 ?_
  refine lv_iadd G.1 G.2.1 d_Ck_load_8 ?_
  refine upf G hP hD hS h 11 putV h_a0 iCk tCk tCk_ok nCk rfl (by decide) rfl q662 rfl rfl fV rfl rfl d_Ck_load_9 (fun s_1 H locs h hP hD hS => ?_)
  refine lv_aload_n G.1 G.2.1 d_Ck_load_12 rfl (lv_at hl 0 rfl) ?_
  refine lv_aload_n G.1 G.2.1 d_Ck_load_13 rfl (lv_at hl 0 rfl) ?_
  obtain ⟨b_2, e_3, c_4, h⟩ := h
  refine ugf (v := .ref (ad b_2)) G hP h_a0 iCk rfl 3 (by decide) rfl q654 rfl (by show va_rf ((sO s_1 a0 3).map ad) = _; rw [e_3]; rfl) d_Ck_load_14 ?_
  refine W.eq (g2 := F0 m 17 ls [.ref (ad b_2), .ref (ad a0)]) rfl ?_
  refine ugf (v := .ref (ad (lk b_2 10))) G hP c_4 iWd rfl 10 (by decide) rfl q843 rfl rfl d_Ck_load_17 ?_
  refine ugf (v := .ref (yP y (lk b_2 10) 0)) G hP (lk_9_10 c_4) iIn rfl 0 (by decide) rfl q380 rfl rfl d_Ck_load_20 ?_
  refine lv_aload_n G.1 G.2.1 d_Ck_load_23 rfl (lv_at hl 0 rfl) ?_
  refine ugf (v := .int (sV s_1 a0 11)) G hP h_a0 iCk rfl 11 (by decide) rfl q662 rfl rfl d_Ck_load_24 ?_
  refine uiald G hP (kdp (lk_9_10 c_4) rfl) (typ (lk_9_10 c_4) rfl) h d_Ck_load_27 (fun x_5 h => ?_)
  refine upf G hP hD hS h 12 putV h_a0 iCk tCk tCk_ok nCk rfl (by decide) rfl q663 rfl rfl fV rfl rfl d_Ck_load_28 (fun s_6 H locs h hP hD hS => ?_)
  refine lv_aload_n G.1 G.2.1 d_Ck_load_31 rfl (lv_at hl 0 rfl) ?_
  refine lv_iconst (v := 0) G.1 G.2.1 d_Ck_load_32 (by decide) ?_
  obtain ⟨n_7, h⟩ := h
  refine upf G hP hD hS h 14 putV h_a0 iCk tCk tCk_ok nCk rfl (by decide) rfl q665 rfl rfl fV (nb_n n_7) (nb_f n_7) d_Ck_load_33 (fun s_8 H locs h hP hD hS => ?_)
  refine lv_aload_n G.1 G.2.1 d_Ck_load_36 rfl (lv_at hl 0 rfl) ?_
  refine ugf (v := .int (sV s_8 a0 12)) G hP h_a0 iCk rfl 12 (by decide) rfl q663 rfl rfl d_Ck_load_37 ?_
  refine lv_bipush (v := 50) G.1 G.2.1 d_Ck_load_40 (by decide) ?_
  have J_122 : ∀ (s_j122 : St) (H : Heap) (locs : List Loc), wj_Ck_load_122 y Post a0 s_j122 → va_P D CL (ws g ad y s_j122) H → va_D A (ws g ad y s_j122) → va_S A s.heap H locs → ∀ ls, lv_has ls 3 [(0, .ref (ad a0))] → W p l e ru_Ck_load s m args below meth c H locs 0 0 Q (F0 m 122 ls []) := by
    intro s_j122 H locs h hP hD hS ls hl
    unfold wj_Ck_load_122 at h
    refine lv_aload_n G.1 G.2.1 d_Ck_load_122 rfl (lv_at hl 0 rfl) ?_
    refine lv_iconst (v := 0) G.1 G.2.1 d_Ck_load_123 (by decide) ?_
    refine upf G hP hD hS h 13 putV h_a0 iCk tCk tCk_ok nCk rfl (by decide) rfl q664 rfl rfl fV rfl rfl d_Ck_load_124 (fun s_9 H locs h hP hD hS => ?_)
    unfold wl_Ck_load_127 at h
    obtain ⟨I_127, μ_127, hI_127, hB_127⟩ := h
    have L_127 : ∀ (n_127 : Nat) (s_h127 : St), μ_127 s_h127 < n_127 → I_127 s_h127 → ∀ (H : Heap) (locs : List Loc), va_P D CL (ws g ad y s_h127) H → va_D A (ws g ad y s_h127) → va_S A s.heap H locs → ∀ ls, lv_has ls 3 [(0, .ref (ad a0))] → W p l e ru_Ck_load s m args below meth c H locs 0 0 Q (F0 m 127 ls []) := by
      intro n_127
      induction n_127 with
      | zero => intro s_h127 hμ; exact absurd hμ (Nat.not_lt_zero _)
      | succ n_127 ih_127 =>
        intro s_h127 hμ_127 hJ H locs hP hD hS ls hl
        obtain ⟨K_127, hK_127, h⟩ : ∃ K : St → Prop, (∀ z, K z  → I_127 z  ∧ μ_127 z  < μ_127 s_h127) ∧ wb_Ck_load_127 y Post K a0 s_h127 := ⟨_, fun _ h => h, hB_127 s_h127 hJ⟩
        unfold wb_Ck_load_127 at h
        refine lv_aload_n G.1 G.2.1 d_Ck_load_127 rfl (lv_at hl 0 rfl) ?_
        refine ugf (v := .int (sV s_h127 a0 13)) G hP h_a0 iCk rfl 13 (by decide) rfl q664 rfl rfl d_Ck_load_128 ?_
        refine lv_iconst (v := 3) G.1 G.2.1 d_Ck_load_131 (by decide) ?_
        have J_169 : ∀ (s_j169 : St) (H : Heap) (locs : List Loc), wj_Ck_load_169 y Post a0 s_j169 → va_P D CL (ws g ad y s_j169) H → va_D A (ws g ad y s_j169) → va_S A s.heap H locs → ∀ ls, lv_has ls 3 [] → W p l e ru_Ck_load s m args below meth c H locs 0 0 Q (F0 m 169 ls []) := by
          intro s_j169 H locs h hP hD hS ls hl
          unfold wj_Ck_load_169 at h
          exact hret _ _ _ _ _ _ ls h hP hD hS (Nat.le_refl _) (Nat.le_refl _) d_Ck_load_169
        refine lv_icmp_ge (tgt := 169) G.1 G.2.1 d_Ck_load_132 (by decide) (fun c132 => ?_) (fun c132 => ?_)
        · skip
          have h := h.1 c132
          exact J_169 s_h127 H locs h hP hD hS ls (lv_sub hl [] rfl)
        · skip
          have h := h.2 c132
          refine uldc (n := 9) hF rfl G d_Ck_load_135 ?_
          refine lv_iconst (v := 3) G.1 G.2.1 d_Ck_load_137 (by decide) ?_
          refine lv_aload_n G.1 G.2.1 d_Ck_load_138 rfl (lv_at hl 0 rfl) ?_
          refine ugf (v := .int (sV s_h127 a0 12)) G hP h_a0 iCk rfl 12 (by decide) rfl q663 rfl rfl d_Ck_load_139 ?_
          refine lv_imul G.1 G.2.1 d_Ck_load_142 ?_
          refine lv_aload_n G.1 G.2.1 d_Ck_load_143 rfl (lv_at hl 0 rfl) ?_
          refine ugf (v := .int (sV s_h127 a0 13)) G hP h_a0 iCk rfl 13 (by decide) rfl q664 rfl rfl d_Ck_load_144 ?_
          refine W.eq (g2 := F0 m 147 ls [.int (sV s_h127 a0 13), .int (3 * (sV s_h127 a0 12)), .ref (sk (F 9))]) rfl ?_
          refine lv_iadd G.1 G.2.1 d_Ck_load_147 ?_
          refine uchar hF (by decide +kernel) G hP hD hS h w9_Js_charAt q1602 ⟨Nat.le_of_ble_eq_true rfl, Nat.le_of_ble_eq_true rfl⟩ hl.1 (Nat.le_of_ble_eq_true rfl) ⟨Nat.le_refl _, Nat.le_refl _⟩ d_Ck_load_148 (fun x_10 H locs h hP hD hS => ?_)
          refine lv_bipush (v := 32) G.1 G.2.1 d_Ck_load_151 (by decide) ?_
          refine lv_icmp_eq (tgt := 169) G.1 G.2.1 d_Ck_load_153 (by decide) (fun c153 => ?_) (fun c153 => ?_)
          · skip
            have h := h.1 c153
            exact J_169 s_h127 H locs h hP hD hS ls (lv_sub hl [] rfl)
          · skip
            have h := h.2 c153
            refine lv_aload_n G.1 G.2.1 d_Ck_load_156 rfl (lv_at hl 0 rfl) ?_
            refine lv_dup G.1 G.2.1 d_Ck_load_157 rfl ?_
            refine ugf (v := .int (sV s_h127 a0 13)) G hP h_a0 iCk rfl 13 (by decide) rfl q664 rfl rfl d_Ck_load_158 ?_
            refine lv_iconst (v := 1) G.1 G.2.1 d_Ck_load_161 (by decide) ?_
            refine lv_iadd G.1 G.2.1 d_Ck_load_162 ?_
            refine upf G hP hD hS h 13 putV h_a0 iCk tCk tCk_ok nCk rfl (by decide) rfl q664 rfl rfl fV rfl rfl d_Ck_load_163 (fun s_11 H locs h hP hD hS => ?_)
            refine lv_goto (tgt := 127) G.1 G.2.1 d_Ck_load_166 (by decide) ?_
            have h := hK_127 s_11 h
            exact ih_127 s_11 (Nat.lt_of_lt_of_le h.2 (Nat.le_of_lt_succ hμ_127)) h.1 H locs hP hD hS ls (lv_sub hl [0] rfl)
    exact L_127 _ s_9 (Nat.lt_succ_self _) hI_127 H locs hP hD hS ls (lv_sub hl [0] rfl)
  refine W.eq (g2 := F0 m 42 ls [.int 50, .int (sV s_8 a0 12)]) rfl ?_
  refine lv_icmp_lt (tgt := 122) G.1 G.2.1 d_Ck_load_42 (by decide) (fun c42 => ?_) (fun c42 => ?_)
  · skip
    have h := h.1 c42
    exact J_122 s_8 H locs h hP hD hS ls (lv_sub hl [0] rfl)
  · skip
    have h := h.2 c42
    refine lv_aload_n G.1 G.2.1 d_Ck_load_45 rfl (lv_at hl 0 rfl) ?_
    refine ugf (v := .int (sV s_8 a0 12)) G hP h_a0 iCk rfl 12 (by decide) rfl q663 rfl rfl d_Ck_load_46 ?_
    refine lv_bipush (v := 53) G.1 G.2.1 d_Ck_load_49 (by decide) ?_
    refine lv_icmp_gt (tgt := 122) G.1 G.2.1 d_Ck_load_51 (by decide) (fun c51 => ?_) (fun c51 => ?_)
    · skip
      have h := h.1 c51
      exact J_122 s_8 H locs h hP hD hS ls (lv_sub hl [0] rfl)
    · skip
      have h := h.2 c51
      refine lv_aload_n G.1 G.2.1 d_Ck_load_54 rfl (lv_at hl 0 rfl) ?_
      obtain ⟨b_12, e_13, c_14, h⟩ := h
      refine ugf (v := .ref (ad b_12)) G hP h_a0 iCk rfl 3 (by decide) rfl q654 rfl (by show va_rf ((sO s_8 a0 3).map ad) = _; rw [e_13]; rfl) d_Ck_load_55 ?_
      refine ugf (v := .ref (ad (lk b_12 10))) G hP c_14 iWd rfl 10 (by decide) rfl q843 rfl rfl d_Ck_load_58 ?_
      refine ugf (v := .ref (yP y (lk b_12 10) 0)) G hP (lk_9_10 c_14) iIn rfl 0 (by decide) rfl q380 rfl rfl d_Ck_load_61 ?_
      refine lv_aload_n G.1 G.2.1 d_Ck_load_64 rfl (lv_at hl 0 rfl) ?_
      refine ugf (v := .int (sV s_8 a0 11)) G hP h_a0 iCk rfl 11 (by decide) rfl q662 rfl rfl d_Ck_load_65 ?_
      refine lv_iconst (v := 2) G.1 G.2.1 d_Ck_load_68 (by decide) ?_
      refine W.eq (g2 := F0 m 69 ls [.int 2, .int (sV s_8 a0 11), .ref (yP y (lk b_12 10) 0)]) rfl ?_
      refine lv_iadd G.1 G.2.1 d_Ck_load_69 ?_
      refine uiald G hP (kdp (lk_9_10 c_14) rfl) (typ (lk_9_10 c_14) rfl) h d_Ck_load_70 (fun x_15 h => ?_)
      refine lv_istore_n (lv' := [(2, .int x_15), (0, .ref (ad a0)), (1, .int v1)]) G.1 G.2.1 d_Ck_load_71 rfl hl (by decide) rfl (fun ls hl => ?_)
      refine lv_aload_n G.1 G.2.1 d_Ck_load_72 rfl (lv_at hl 1 rfl) ?_
      refine lv_aload_n G.1 G.2.1 d_Ck_load_73 rfl (lv_at hl 1 rfl) ?_
      refine ugf (v := .ref (ad (lk a0 2))) G hP h_a0 iCk rfl 2 (by decide) rfl q653 rfl rfl d_Ck_load_74 ?_
      refine lv_iload_n G.1 G.2.1 d_Ck_load_77 rfl (lv_at hl 0 rfl) ?_
      refine ucVi (As := [.int x_15]) (rest := [.ref (ad a0)]) G hP hD hS (cu_Na_argumentsOf l D g ad y _ s_8 (lk a0 2) x_15 H.size (lk_0_2 h_a0) h) w9_Na_argumentsOf q1588 ⟨Nat.le_of_ble_eq_true rfl, Nat.le_of_ble_eq_true rfl⟩ rfl rfl (lk_0_2 h_a0) (q := (RNa, TNa, 11)) rfl rfl hl.1 rfl (Nat.le_of_ble_eq_true rfl) rfl ⟨Nat.le_refl _, Nat.le_refl _⟩ d_Ck_load_78 (fun r_16 s_17 H locs h hP hD hS => ?_)
      refine lv_aload_n G.1 G.2.1 d_Ck_load_81 rfl (lv_at hl 1 rfl) ?_
      refine ugf (v := .int (sV s_17 a0 12)) G hP h_a0 iCk rfl 12 (by decide) rfl q663 rfl rfl d_Ck_load_82 ?_
      refine lv_bipush (v := 52) G.1 G.2.1 d_Ck_load_85 (by decide) ?_
      have J_95 : ∀ (s_j95 : St) (x2j95 : Int32) (z1j95 : Int32) (z2j95 : Int32) (H : Heap) (locs : List Loc), wj_Ck_load_95 y Post a0 s_j95 x2j95 z1j95 z2j95 → va_P D CL (ws g ad y s_j95) H → va_D A (ws g ad y s_j95) → va_S A s.heap H locs → ∀ ls, lv_has ls 3 [(0, .ref (ad a0)), (2, .int x2j95)] → W p l e ru_Ck_load s m args below meth c H locs 0 0 Q (F0 m 95 ls [.int z2j95, .int z1j95, .ref (ad a0)]) := by
        intro s_j95 x2j95 z1j95 z2j95 H locs h hP hD hS ls hl
        unfold wj_Ck_load_95 at h
        refine lv_iadd G.1 G.2.1 d_Ck_load_95 ?_
        refine upf G hP hD hS h 13 putV h_a0 iCk tCk tCk_ok nCk rfl (by decide) rfl q664 rfl rfl fV rfl rfl d_Ck_load_96 (fun s_18 H locs h hP hD hS => ?_)
        refine lv_aload_n G.1 G.2.1 d_Ck_load_99 rfl (lv_at hl 0 rfl) ?_
        refine lv_aload_n G.1 G.2.1 d_Ck_load_100 rfl (lv_at hl 0 rfl) ?_
        refine ugf (v := .ref (ad (lk a0 2))) G hP h_a0 iCk rfl 2 (by decide) rfl q653 rfl rfl d_Ck_load_101 ?_
        refine lv_iload_n G.1 G.2.1 d_Ck_load_104 rfl (lv_at hl 1 rfl) ?_
        refine ucVi (As := [.int x2j95]) (rest := [.ref (ad a0)]) G hP hD hS (cu_Na_nameOf l D g ad y _ s_18 (lk a0 2) x2j95 H.size (lk_0_2 h_a0) h) w9_Na_nameOf q1585 ⟨Nat.le_of_ble_eq_true rfl, Nat.le_of_ble_eq_true rfl⟩ rfl rfl (lk_0_2 h_a0) (q := (RNa, TNa, 11)) rfl rfl hl.1 rfl (Nat.le_of_ble_eq_true rfl) rfl ⟨Nat.le_refl _, Nat.le_refl _⟩ d_Ck_load_105 (fun r_19 s_20 H locs h hP hD hS => ?_)
        refine lv_bipush (v := 7) G.1 G.2.1 d_Ck_load_108 (by decide) ?_
        have J_118 : ∀ (s_j118 : St) (z1j118 : Int32) (H : Heap) (locs : List Loc), wj_Ck_load_118 y Post a0 s_j118 z1j118 → va_P D CL (ws g ad y s_j118) H → va_D A (ws g ad y s_j118) → va_S A s.heap H locs → ∀ ls, lv_has ls 3 [] → W p l e ru_Ck_load s m args below meth c H locs 0 0 Q (F0 m 118 ls [.int z1j118, .ref (ad a0)]) := by
          intro s_j118 z1j118 H locs h hP hD hS ls hl
          unfold wj_Ck_load_118 at h
          obtain ⟨n_21, h⟩ := h
          refine upf G hP hD hS h 14 putV h_a0 iCk tCk tCk_ok nCk rfl (by decide) rfl q665 rfl rfl fV (nb_n n_21) (nb_f n_21) d_Ck_load_118 (fun s_22 H locs h hP hD hS => ?_)
          exact hret _ _ _ _ _ _ ls h hP hD hS (Nat.le_refl _) (Nat.le_refl _) d_Ck_load_121
        refine lv_icmp_ne (tgt := 117) G.1 G.2.1 d_Ck_load_110 (by decide) (fun c110 => ?_) (fun c110 => ?_)
        · skip
          have h := h.1 c110
          refine lv_iconst (v := 0) G.1 G.2.1 d_Ck_load_117 (by decide) ?_
          exact J_118 s_20 0 H locs h hP hD hS ls (lv_sub hl [] rfl)
        · skip
          have h := h.2 c110
          refine lv_iconst (v := 1) G.1 G.2.1 d_Ck_load_113 (by decide) ?_
          refine lv_goto (tgt := 118) G.1 G.2.1 d_Ck_load_114 (by decide) ?_
          exact J_118 s_20 1 H locs h hP hD hS ls (lv_sub hl [] rfl)
      refine lv_icmp_ne (tgt := 94) G.1 G.2.1 d_Ck_load_87 (by decide) (fun c87 => ?_) (fun c87 => ?_)
      · skip
        have h := h.1 c87
        refine W.eq (g2 := F0 m 94 ls [.int r_16, .ref (ad a0)]) rfl ?_
        refine lv_iconst (v := 1) G.1 G.2.1 d_Ck_load_94 (by decide) ?_
        exact J_95 s_17 x_15 r_16 1 H locs h hP hD hS ls (lv_sub hl [1, 0] rfl)
      · skip
        have h := h.2 c87
        refine W.eq (g2 := F0 m 90 ls [.int r_16, .ref (ad a0)]) rfl ?_
        refine lv_iconst (v := 0) G.1 G.2.1 d_Ck_load_90 (by decide) ?_
        refine lv_goto (tgt := 95) G.1 G.2.1 d_Ck_load_91 (by decide) ?_
        exact J_95 s_17 x_15 r_16 0 H locs h hP hD hS ls (lv_sub hl [1, 0] rfl)
def y_Ck_want : MethodName := ⟨"ClassWorks$Checker", "want", "(I)I"⟩
abbrev b_Ck_want : ByteArray := prog_2_method_17_code
theorem d_Ck_want_0 : decode b_Ck_want 0 = .ok (.aload_n 0, 1) := by decide +kernel
theorem d_Ck_want_1 : decode b_Ck_want 1 = .ok (.getfield 43, 3) := by decide +kernel
theorem d_Ck_want_4 : decode b_Ck_want 4 = .ok (.bipush 50, 2) := by decide +kernel
theorem d_Ck_want_6 : decode b_Ck_want 6 = .ok (.if_icmp .lt 102, 3) := by decide +kernel
theorem d_Ck_want_9 : decode b_Ck_want 9 = .ok (.aload_n 0, 1) := by decide +kernel
theorem d_Ck_want_10 : decode b_Ck_want 10 = .ok (.getfield 43, 3) := by decide +kernel
theorem d_Ck_want_13 : decode b_Ck_want 13 = .ok (.bipush 53, 2) := by decide +kernel
theorem d_Ck_want_15 : decode b_Ck_want 15 = .ok (.if_icmp .gt 93, 3) := by decide +kernel
theorem d_Ck_want_18 : decode b_Ck_want 18 = .ok (.iload_n 1, 1) := by decide +kernel
theorem d_Ck_want_19 : decode b_Ck_want 19 = .ok (.aload_n 0, 1) := by decide +kernel
theorem d_Ck_want_20 : decode b_Ck_want 20 = .ok (.getfield 46, 3) := by decide +kernel
theorem d_Ck_want_23 : decode b_Ck_want 23 = .ok (.aload_n 0, 1) := by decide +kernel
theorem d_Ck_want_24 : decode b_Ck_want 24 = .ok (.getfield 43, 3) := by decide +kernel
theorem d_Ck_want_27 : decode b_Ck_want 27 = .ok (.bipush 52, 2) := by decide +kernel
theorem d_Ck_want_29 : decode b_Ck_want 29 = .ok (.if_icmp .ne 7, 3) := by decide +kernel
theorem d_Ck_want_32 : decode b_Ck_want 32 = .ok (.iconst 0, 1) := by decide +kernel
theorem d_Ck_want_33 : decode b_Ck_want 33 = .ok (.goto 4, 3) := by decide +kernel
theorem d_Ck_want_36 : decode b_Ck_want 36 = .ok (.iconst 1, 1) := by decide +kernel
theorem d_Ck_want_37 : decode b_Ck_want 37 = .ok (.isub, 1) := by decide +kernel
theorem d_Ck_want_38 : decode b_Ck_want 38 = .ok (.if_icmp .ge 30, 3) := by decide +kernel
theorem d_Ck_want_41 : decode b_Ck_want 41 = .ok (.aload_n 0, 1) := by decide +kernel
theorem d_Ck_want_42 : decode b_Ck_want 42 = .ok (.iconst 2, 1) := by decide +kernel
theorem d_Ck_want_43 : decode b_Ck_want 43 = .ok (.invokevirtual 172, 3) := by decide +kernel
theorem d_Ck_want_46 : decode b_Ck_want 46 = .ok (.istore_n 2, 1) := by decide +kernel
theorem d_Ck_want_47 : decode b_Ck_want 47 = .ok (.aload_n 0, 1) := by decide +kernel
theorem d_Ck_want_48 : decode b_Ck_want 48 = .ok (.getfield 74, 3) := by decide +kernel
theorem d_Ck_want_51 : decode b_Ck_want 51 = .ok (.iload_n 2, 1) := by decide +kernel
theorem d_Ck_want_52 : decode b_Ck_want 52 = .ok (.aload_n 0, 1) := by decide +kernel
theorem d_Ck_want_53 : decode b_Ck_want 53 = .ok (.getfield 74, 3) := by decide +kernel
theorem d_Ck_want_56 : decode b_Ck_want 56 = .ok (.iload_n 2, 1) := by decide +kernel
theorem d_Ck_want_57 : decode b_Ck_want 57 = .ok (.invokevirtual 107, 3) := by decide +kernel
theorem d_Ck_want_60 : decode b_Ck_want 60 = .ok (.iconst 1, 1) := by decide +kernel
theorem d_Ck_want_61 : decode b_Ck_want 61 = .ok (.isub, 1) := by decide +kernel
theorem d_Ck_want_62 : decode b_Ck_want 62 = .ok (.iload_n 1, 1) := by decide +kernel
theorem d_Ck_want_63 : decode b_Ck_want 63 = .ok (.isub, 1) := by decide +kernel
theorem d_Ck_want_64 : decode b_Ck_want 64 = .ok (.invokevirtual 110, 3) := by decide +kernel
theorem d_Ck_want_67 : decode b_Ck_want 67 = .ok (.ireturn, 1) := by decide +kernel
theorem d_Ck_want_68 : decode b_Ck_want 68 = .ok (.aload_n 0, 1) := by decide +kernel
theorem d_Ck_want_69 : decode b_Ck_want 69 = .ok (.getfield 43, 3) := by decide +kernel
theorem d_Ck_want_72 : decode b_Ck_want 72 = .ok (.bipush 51, 2) := by decide +kernel
theorem d_Ck_want_74 : decode b_Ck_want 74 = .ok (.if_icmp .eq 9, 3) := by decide +kernel
theorem d_Ck_want_77 : decode b_Ck_want 77 = .ok (.aload_n 0, 1) := by decide +kernel
theorem d_Ck_want_78 : decode b_Ck_want 78 = .ok (.iconst 1, 1) := by decide +kernel
theorem d_Ck_want_79 : decode b_Ck_want 79 = .ok (.invokevirtual 172, 3) := by decide +kernel
theorem d_Ck_want_82 : decode b_Ck_want 82 = .ok (.ireturn, 1) := by decide +kernel
theorem d_Ck_want_83 : decode b_Ck_want 83 = .ok (.aload_n 0, 1) := by decide +kernel
theorem d_Ck_want_84 : decode b_Ck_want 84 = .ok (.getfield 49, 3) := by decide +kernel
theorem d_Ck_want_87 : decode b_Ck_want 87 = .ok (.ifCond .eq 8, 3) := by decide +kernel
theorem d_Ck_want_90 : decode b_Ck_want 90 = .ok (.ldc 175, 2) := by decide +kernel
theorem d_Ck_want_92 : decode b_Ck_want 92 = .ok (.goto 15, 3) := by decide +kernel
theorem d_Ck_want_95 : decode b_Ck_want 95 = .ok (.aload_n 0, 1) := by decide +kernel
theorem d_Ck_want_96 : decode b_Ck_want 96 = .ok (.getfield 78, 3) := by decide +kernel
theorem d_Ck_want_99 : decode b_Ck_want 99 = .ok (.aload_n 0, 1) := by decide +kernel
theorem d_Ck_want_100 : decode b_Ck_want 100 = .ok (.getfield 18, 3) := by decide +kernel
theorem d_Ck_want_103 : decode b_Ck_want 103 = .ok (.iconst 0, 1) := by decide +kernel
theorem d_Ck_want_104 : decode b_Ck_want 104 = .ok (.invokevirtual 103, 3) := by decide +kernel
theorem d_Ck_want_107 : decode b_Ck_want 107 = .ok (.ireturn, 1) := by decide +kernel
theorem d_Ck_want_108 : decode b_Ck_want 108 = .ok (.ldc 120, 2) := by decide +kernel
theorem d_Ck_want_110 : decode b_Ck_want 110 = .ok (.iconst 3, 1) := by decide +kernel
theorem d_Ck_want_111 : decode b_Ck_want 111 = .ok (.aload_n 0, 1) := by decide +kernel
theorem d_Ck_want_112 : decode b_Ck_want 112 = .ok (.getfield 43, 3) := by decide +kernel
theorem d_Ck_want_115 : decode b_Ck_want 115 = .ok (.imul, 1) := by decide +kernel
theorem d_Ck_want_116 : decode b_Ck_want 116 = .ok (.iload_n 1, 1) := by decide +kernel
theorem d_Ck_want_117 : decode b_Ck_want 117 = .ok (.iadd, 1) := by decide +kernel
theorem d_Ck_want_118 : decode b_Ck_want 118 = .ok (.invokevirtual 122, 3) := by decide +kernel
theorem d_Ck_want_121 : decode b_Ck_want 121 = .ok (.lookupswitch 125 #[(67, 88), (82, 100), (84, 94), (102, 85), (110, 75), (114, 79), (115, 82), (119, 77)], 75) := by decide +kernel
theorem d_Ck_want_196 : decode b_Ck_want 196 = .ok (.iconst 0, 1) := by decide +kernel
theorem d_Ck_want_197 : decode b_Ck_want 197 = .ok (.ireturn, 1) := by decide +kernel
theorem d_Ck_want_198 : decode b_Ck_want 198 = .ok (.iconst 1, 1) := by decide +kernel
theorem d_Ck_want_199 : decode b_Ck_want 199 = .ok (.ireturn, 1) := by decide +kernel
theorem d_Ck_want_200 : decode b_Ck_want 200 = .ok (.ldc 201, 2) := by decide +kernel
theorem d_Ck_want_202 : decode b_Ck_want 202 = .ok (.ireturn, 1) := by decide +kernel
theorem d_Ck_want_203 : decode b_Ck_want 203 = .ok (.ldc 202, 2) := by decide +kernel
theorem d_Ck_want_205 : decode b_Ck_want 205 = .ok (.ireturn, 1) := by decide +kernel
theorem d_Ck_want_206 : decode b_Ck_want 206 = .ok (.bipush 10, 2) := by decide +kernel
theorem d_Ck_want_208 : decode b_Ck_want 208 = .ok (.ireturn, 1) := by decide +kernel
theorem d_Ck_want_209 : decode b_Ck_want 209 = .ok (.aload_n 0, 1) := by decide +kernel
theorem d_Ck_want_210 : decode b_Ck_want 210 = .ok (.iconst 1, 1) := by decide +kernel
theorem d_Ck_want_211 : decode b_Ck_want 211 = .ok (.invokevirtual 172, 3) := by decide +kernel
theorem d_Ck_want_214 : decode b_Ck_want 214 = .ok (.ireturn, 1) := by decide +kernel
theorem d_Ck_want_215 : decode b_Ck_want 215 = .ok (.aload_n 0, 1) := by decide +kernel
theorem d_Ck_want_216 : decode b_Ck_want 216 = .ok (.iconst 3, 1) := by decide +kernel
theorem d_Ck_want_217 : decode b_Ck_want 217 = .ok (.invokevirtual 172, 3) := by decide +kernel
theorem d_Ck_want_220 : decode b_Ck_want 220 = .ok (.ireturn, 1) := by decide +kernel
theorem d_Ck_want_221 : decode b_Ck_want 221 = .ok (.aload_n 0, 1) := by decide +kernel
theorem d_Ck_want_222 : decode b_Ck_want 222 = .ok (.getfield 33, 3) := by decide +kernel
theorem d_Ck_want_225 : decode b_Ck_want 225 = .ok (.ifCond .eq 11, 3) := by decide +kernel
theorem d_Ck_want_228 : decode b_Ck_want 228 = .ok (.aload_n 0, 1) := by decide +kernel
theorem d_Ck_want_229 : decode b_Ck_want 229 = .ok (.getfield 33, 3) := by decide +kernel
theorem d_Ck_want_232 : decode b_Ck_want 232 = .ok (.iconst 5, 1) := by decide +kernel
theorem d_Ck_want_233 : decode b_Ck_want 233 = .ok (.if_icmp .ne 8, 3) := by decide +kernel
theorem d_Ck_want_236 : decode b_Ck_want 236 = .ok (.ldc 201, 2) := by decide +kernel
theorem d_Ck_want_238 : decode b_Ck_want 238 = .ok (.goto 7, 3) := by decide +kernel
theorem d_Ck_want_241 : decode b_Ck_want 241 = .ok (.aload_n 0, 1) := by decide +kernel
theorem d_Ck_want_242 : decode b_Ck_want 242 = .ok (.getfield 33, 3) := by decide +kernel
theorem d_Ck_want_245 : decode b_Ck_want 245 = .ok (.ireturn, 1) := by decide +kernel
theorem d_Ck_want_246 : decode b_Ck_want 246 = .ok (.ldc 175, 2) := by decide +kernel
theorem d_Ck_want_248 : decode b_Ck_want 248 = .ok (.ireturn, 1) := by decide +kernel
abbrev ru_Ck_want : Room := { frames := 4, cells := 0, slots := 0, locals := 85 }
def wj_Ck_want_245 (y : Ly) (Post : St → Int32 → Prop) (a0 : Nat) (s_j245 : St) (z0j245 : Int32) : Prop := Post s_j245 z0j245
def wj_Ck_want_236 (y : Ly) (Post : St → Int32 → Prop) (a0 : Nat) (s_j236 : St) : Prop := wj_Ck_want_245 y Post a0 s_j236 (-2147483647)
def wj_Ck_want_108 (y : Ly) (Post : St → Int32 → Prop) (a0 : Nat) (s_j108 : St) (x1j108 : Int32) : Prop := xH 9 ((3 * (sV s_j108 a0 12)) + x1j108) (fun x_1 : Int32 => ((x_1 = 67 → wu_Ck_operand y (fun (s_3 : St) (r_2 : Int32) => Post s_3 r_2) s_j108 a0 1) ∧ (¬ (x_1 = 67) → ((x_1 = 82 → (((sV s_j108 a0 9) = 0 → wj_Ck_want_236 y Post a0 s_j108) ∧ (¬ ((sV s_j108 a0 9) = 0) → ((¬ (sV s_j108 a0 9) = 5 → wj_Ck_want_245 y Post a0 s_j108 (sV s_j108 a0 9)) ∧ ((sV s_j108 a0 9) = 5 → wj_Ck_want_236 y Post a0 s_j108))))) ∧ (¬ (x_1 = 82) → ((x_1 = 84 → wu_Ck_operand y (fun (s_5 : St) (r_4 : Int32) => Post s_5 r_4) s_j108 a0 3) ∧ (¬ (x_1 = 84) → ((x_1 = 102 → Post s_j108 10) ∧ (¬ (x_1 = 102) → ((x_1 = 110 → Post s_j108 0) ∧ (¬ (x_1 = 110) → ((x_1 = 114 → Post s_j108 (-2147483647)) ∧ (¬ (x_1 = 114) → ((x_1 = 115 → Post s_j108 (-2147483646)) ∧ (¬ (x_1 = 115) → ((x_1 = 119 → Post s_j108 1) ∧ (¬ (x_1 = 119) → Post s_j108 (-2147483648))))))))))))))))))
def wj_Ck_want_107 (y : Ly) (Post : St → Int32 → Prop) (a0 : Nat) (s_j107 : St) (z0j107 : Int32) : Prop := Post s_j107 z0j107
def wj_Ck_want_37 (y : Ly) (Post : St → Int32 → Prop) (a0 : Nat) (s_j37 : St) (x1j37 : Int32) (z0j37 : Int32) (z1j37 : Int32) (z2j37 : Int32) : Prop := (((z1j37 - z2j37) ≤ z0j37 → (((sV s_j37 a0 12) = 51 → (((sV s_j37 a0 14) = 0 → ∃ b_6 : Nat, sO s_j37 a0 3 = some b_6 ∧ cl b_6 = 9 ∧ wu_Wd_of y (fun (s_10 : St) (r_9 : Int32) => wj_Ck_want_107 y Post a0 s_10 r_9) s_j37 b_6 (sV s_j37 a0 4) 0) ∧ (¬ ((sV s_j37 a0 14) = 0) → wj_Ck_want_107 y Post a0 s_j37 (-2147483648)))) ∧ (¬ ((sV s_j37 a0 12) = 51) → wu_Ck_operand y (fun (s_12 : St) (r_11 : Int32) => Post s_12 r_11) s_j37 a0 1))) ∧ (¬ ((z1j37 - z2j37) ≤ z0j37) → wu_Ck_operand y (fun (s_14 : St) (r_13 : Int32) => wu_Na_argumentsOf y (fun (s_16 : St) (r_15 : Int32) => wu_Na_typeOf y (fun (s_18 : St) (r_17 : Int32) => Post s_18 r_17) s_16 (lk a0 2) r_13 ((r_15 - 1) - x1j37)) s_14 (lk a0 2) r_13) s_j37 a0 2))
def wu_Ck_want (y : Ly) (Post : St → Int32 → Prop) (σ : St) (a0 : Nat) (v1 : Int32) : Prop := (((sV σ a0 12) < 50 → wj_Ck_want_108 y Post a0 σ v1) ∧ (¬ ((sV σ a0 12) < 50) → ((53 < (sV σ a0 12) → wj_Ck_want_108 y Post a0 σ v1) ∧ (¬ (53 < (sV σ a0 12)) → ((¬ (sV σ a0 12) = 52 → wj_Ck_want_37 y Post a0 σ v1 v1 (sV σ a0 13) 1) ∧ ((sV σ a0 12) = 52 → wj_Ck_want_37 y Post a0 σ v1 v1 (sV σ a0 13) 0))))))
set_option maxHeartbeats 4000000 in
set_option maxRecDepth 100000 in
theorem cu_Ck_want (l : Launch) (D : va_G) (g : Nat → ClassId) (F : Nat → SL) (sl : List SL) (hF : SOK F sl) (ad : Nat → Nat) (y : Ly) (Post : St → Int32 → Prop) (σ : St) (a0 : Nat) (v1 : Int32) (sz : Nat) (h_a0 : cl a0 = 0) (h : wu_Ck_want y Post σ a0 v1) : Met l y_Ck_want (mw y_Ck_want b_Ck_want 3 (some .int)) ru_Ck_want (PC g D sl [.ref (ad a0), .int v1] sz (ws g ad y σ)) (va_Qi (fun (r : Int32) (u : St) => Post u r) (QW D (va_A (ws g ad y σ) sz) (fun u => ws g ad y u)) (va_A (ws g ad y σ) sz)) 0 0 (va_A (ws g ad y σ) sz) := by
  refine ofI (by decide +kernel) (Nat.le_of_ble_eq_true rfl) ?_
  intro p e s m args below meth c A Q ls H locs G hsz hP hD hS hl hret
  subst hsz
  have hl : lv_has ls 3 [(0, .ref (ad a0)), (1, .int v1)] := hl
  unfold wu_Ck_want at h
  refine lv_aload_n G.1 G.2.1 d_Ck_want_0 rfl (lv_at hl 0 rfl) ?_
  refine ugf (v := .int (sV σ a0 12)) G hP h_a0 iCk rfl 12 (by decide) rfl q663 rfl rfl d_Ck_want_1 ?_
  refine lv_bipush (v := 50) G.1 G.2.1 d_Ck_want_4 (by decide) ?_
  have J_108 : ∀ (s_j108 : St) (x1j108 : Int32) (H : Heap) (locs : List Loc), wj_Ck_want_108 y Post a0 s_j108 x1j108 → va_P D CL (ws g ad y s_j108) H → va_D A (ws g ad y s_j108) → va_S A s.heap H locs → ∀ ls, lv_has ls 3 [(0, .ref (ad a0)), (1, .int x1j108)] → W p l e ru_Ck_want s m args below meth c H locs 0 0 Q (F0 m 108 ls []) := by
    intro s_j108 x1j108 H locs h hP hD hS ls hl
    unfold wj_Ck_want_108 at h
    refine uldc (n := 9) hF rfl G d_Ck_want_108 ?_
    refine lv_iconst (v := 3) G.1 G.2.1 d_Ck_want_110 (by decide) ?_
    refine lv_aload_n G.1 G.2.1 d_Ck_want_111 rfl (lv_at hl 0 rfl) ?_
    refine ugf (v := .int (sV s_j108 a0 12)) G hP h_a0 iCk rfl 12 (by decide) rfl q663 rfl rfl d_Ck_want_112 ?_
    refine lv_imul G.1 G.2.1 d_Ck_want_115 ?_
    refine lv_iload_n G.1 G.2.1 d_Ck_want_116 rfl (lv_at hl 1 rfl) ?_
    refine lv_iadd G.1 G.2.1 d_Ck_want_117 ?_
    refine uchar hF (by decide +kernel) G hP hD hS h w9_Js_charAt q1602 ⟨Nat.le_of_ble_eq_true rfl, Nat.le_of_ble_eq_true rfl⟩ hl.1 (Nat.le_of_ble_eq_true rfl) ⟨Nat.le_refl _, Nat.le_refl _⟩ d_Ck_want_118 (fun x_1 H locs h hP hD hS => ?_)
    by_cases e121_67 : x_1 = 67
    · skip
      have h := h.1 e121_67
      refine lv_lookup (off := 88) (tgt := 209) G.1 G.2.1 d_Ck_want_121 (by decide) (by rw [e121_67]; rfl) (by decide) ?_
      refine lv_aload_n G.1 G.2.1 d_Ck_want_209 rfl (lv_at hl 0 rfl) ?_
      refine lv_iconst (v := 1) G.1 G.2.1 d_Ck_want_210 (by decide) ?_
      refine W.eq (g2 := F0 m 211 ls [.int 1, .ref (ad a0)]) rfl ?_
      refine ucVi (As := [.int 1]) (rest := []) G hP hD hS (cu_Ck_operand l D g ad y _ s_j108 a0 1 H.size h_a0 h) w9_Ck_operand q1607 ⟨Nat.le_of_ble_eq_true rfl, Nat.le_of_ble_eq_true rfl⟩ rfl rfl h_a0 (q := (RCk, TCk, 22)) rfl rfl hl.1 rfl (Nat.le_of_ble_eq_true rfl) rfl ⟨Nat.le_refl _, Nat.le_refl _⟩ d_Ck_want_211 (fun r_2 s_3 H locs h hP hD hS => ?_)
      exact hret _ _ _ _ _ _ _ ls h hP hD hS (Nat.le_refl _) (Nat.le_refl _) d_Ck_want_214
    replace h := h.2 e121_67
    by_cases e121_82 : x_1 = 82
    · skip
      have h := h.1 e121_82
      refine lv_lookup (off := 100) (tgt := 221) G.1 G.2.1 d_Ck_want_121 (by decide) (by rw [e121_82]; rfl) (by decide) ?_
      refine lv_aload_n G.1 G.2.1 d_Ck_want_221 rfl (lv_at hl 0 rfl) ?_
      refine ugf (v := .int (sV s_j108 a0 9)) G hP h_a0 iCk rfl 9 (by decide) rfl q660 rfl rfl d_Ck_want_222 ?_
      have J_245 : ∀ (s_j245 : St) (z0j245 : Int32) (H : Heap) (locs : List Loc), wj_Ck_want_245 y Post a0 s_j245 z0j245 → va_P D CL (ws g ad y s_j245) H → va_D A (ws g ad y s_j245) → va_S A s.heap H locs → ∀ ls, lv_has ls 3 [] → W p l e ru_Ck_want s m args below meth c H locs 0 0 Q (F0 m 245 ls [.int z0j245]) := by
        intro s_j245 z0j245 H locs h hP hD hS ls hl
        unfold wj_Ck_want_245 at h
        exact hret _ _ _ _ _ _ _ ls h hP hD hS (Nat.le_refl _) (Nat.le_refl _) d_Ck_want_245
      have J_236 : ∀ (s_j236 : St) (H : Heap) (locs : List Loc), wj_Ck_want_236 y Post a0 s_j236 → va_P D CL (ws g ad y s_j236) H → va_D A (ws g ad y s_j236) → va_S A s.heap H locs → ∀ ls, lv_has ls 3 [] → W p l e ru_Ck_want s m args below meth c H locs 0 0 Q (F0 m 236 ls []) := by
        intro s_j236 H locs h hP hD hS ls hl
        unfold wj_Ck_want_236 at h
        refine lv_ldc (v := (-2147483647)) G.1 G.2.1 G.2.2.2.2.2.2.1 (G.2.2.2.2.2.1 _ q1642) d_Ck_want_236 ?_
        refine lv_goto (tgt := 245) G.1 G.2.1 d_Ck_want_238 (by decide) ?_
        exact J_245 s_j236 (-2147483647) H locs h hP hD hS ls (lv_sub hl [] rfl)
      refine W.eq (g2 := F0 m 225 ls [.int (sV s_j108 a0 9)]) rfl ?_
      refine lv_if_eq (tgt := 236) G.1 G.2.1 d_Ck_want_225 (by decide) (fun c225 => ?_) (fun c225 => ?_)
      · skip
        have h := h.1 c225
        exact J_236 s_j108 H locs h hP hD hS ls (lv_sub hl [] rfl)
      · skip
        have h := h.2 c225
        refine lv_aload_n G.1 G.2.1 d_Ck_want_228 rfl (lv_at hl 0 rfl) ?_
        refine ugf (v := .int (sV s_j108 a0 9)) G hP h_a0 iCk rfl 9 (by decide) rfl q660 rfl rfl d_Ck_want_229 ?_
        refine lv_iconst (v := 5) G.1 G.2.1 d_Ck_want_232 (by decide) ?_
        refine lv_icmp_ne (tgt := 241) G.1 G.2.1 d_Ck_want_233 (by decide) (fun c233 => ?_) (fun c233 => ?_)
        · skip
          have h := h.1 c233
          refine lv_aload_n G.1 G.2.1 d_Ck_want_241 rfl (lv_at hl 0 rfl) ?_
          refine ugf (v := .int (sV s_j108 a0 9)) G hP h_a0 iCk rfl 9 (by decide) rfl q660 rfl rfl d_Ck_want_242 ?_
          exact J_245 s_j108 (sV s_j108 a0 9) H locs h hP hD hS ls (lv_sub hl [] rfl)
        · skip
          have h := h.2 c233
          exact J_236 s_j108 H locs h hP hD hS ls (lv_sub hl [] rfl)
    replace h := h.2 e121_82
    by_cases e121_84 : x_1 = 84
    · skip
      have h := h.1 e121_84
      refine lv_lookup (off := 94) (tgt := 215) G.1 G.2.1 d_Ck_want_121 (by decide) (by rw [e121_84]; rfl) (by decide) ?_
      refine lv_aload_n G.1 G.2.1 d_Ck_want_215 rfl (lv_at hl 0 rfl) ?_
      refine lv_iconst (v := 3) G.1 G.2.1 d_Ck_want_216 (by decide) ?_
      refine W.eq (g2 := F0 m 217 ls [.int 3, .ref (ad a0)]) rfl ?_
      refine ucVi (As := [.int 3]) (rest := []) G hP hD hS (cu_Ck_operand l D g ad y _ s_j108 a0 3 H.size h_a0 h) w9_Ck_operand q1607 ⟨Nat.le_of_ble_eq_true rfl, Nat.le_of_ble_eq_true rfl⟩ rfl rfl h_a0 (q := (RCk, TCk, 22)) rfl rfl hl.1 rfl (Nat.le_of_ble_eq_true rfl) rfl ⟨Nat.le_refl _, Nat.le_refl _⟩ d_Ck_want_217 (fun r_4 s_5 H locs h hP hD hS => ?_)
      exact hret _ _ _ _ _ _ _ ls h hP hD hS (Nat.le_refl _) (Nat.le_refl _) d_Ck_want_220
    replace h := h.2 e121_84
    by_cases e121_102 : x_1 = 102
    · skip
      have h := h.1 e121_102
      refine lv_lookup (off := 85) (tgt := 206) G.1 G.2.1 d_Ck_want_121 (by decide) (by rw [e121_102]; rfl) (by decide) ?_
      refine lv_bipush (v := 10) G.1 G.2.1 d_Ck_want_206 (by decide) ?_
      exact hret _ _ _ _ _ _ _ ls h hP hD hS (Nat.le_refl _) (Nat.le_refl _) d_Ck_want_208
    replace h := h.2 e121_102
    by_cases e121_110 : x_1 = 110
    · skip
      have h := h.1 e121_110
      refine lv_lookup (off := 75) (tgt := 196) G.1 G.2.1 d_Ck_want_121 (by decide) (by rw [e121_110]; rfl) (by decide) ?_
      refine lv_iconst (v := 0) G.1 G.2.1 d_Ck_want_196 (by decide) ?_
      exact hret _ _ _ _ _ _ _ ls h hP hD hS (Nat.le_refl _) (Nat.le_refl _) d_Ck_want_197
    replace h := h.2 e121_110
    by_cases e121_114 : x_1 = 114
    · skip
      have h := h.1 e121_114
      refine lv_lookup (off := 79) (tgt := 200) G.1 G.2.1 d_Ck_want_121 (by decide) (by rw [e121_114]; rfl) (by decide) ?_
      refine lv_ldc (v := (-2147483647)) G.1 G.2.1 G.2.2.2.2.2.2.1 (G.2.2.2.2.2.1 _ q1642) d_Ck_want_200 ?_
      exact hret _ _ _ _ _ _ _ ls h hP hD hS (Nat.le_refl _) (Nat.le_refl _) d_Ck_want_202
    replace h := h.2 e121_114
    by_cases e121_115 : x_1 = 115
    · skip
      have h := h.1 e121_115
      refine lv_lookup (off := 82) (tgt := 203) G.1 G.2.1 d_Ck_want_121 (by decide) (by rw [e121_115]; rfl) (by decide) ?_
      refine lv_ldc (v := (-2147483646)) G.1 G.2.1 G.2.2.2.2.2.2.1 (G.2.2.2.2.2.1 _ q1643) d_Ck_want_203 ?_
      exact hret _ _ _ _ _ _ _ ls h hP hD hS (Nat.le_refl _) (Nat.le_refl _) d_Ck_want_205
    replace h := h.2 e121_115
    by_cases e121_119 : x_1 = 119
    · skip
      have h := h.1 e121_119
      refine lv_lookup (off := 77) (tgt := 198) G.1 G.2.1 d_Ck_want_121 (by decide) (by rw [e121_119]; rfl) (by decide) ?_
      refine lv_iconst (v := 1) G.1 G.2.1 d_Ck_want_198 (by decide) ?_
      exact hret _ _ _ _ _ _ _ ls h hP hD hS (Nat.le_refl _) (Nat.le_refl _) d_Ck_want_199
    replace h := h.2 e121_119
    refine lv_lookup (off := 125) (tgt := 246) G.1 G.2.1 d_Ck_want_121 (by decide) (by show Op.lookupswitch.offset [(67, 88), (82, 100), (84, 94), (102, 85), (110, 75), (114, 79), (115, 82), (119, 77)] _ _ = _; rw [lv_osw e121_67 (by decide), lv_osw e121_82 (by decide), lv_osw e121_84 (by decide), lv_osw e121_102 (by decide), lv_osw e121_110 (by decide), lv_osw e121_114 (by decide), lv_osw e121_115 (by decide), lv_osw e121_119 (by decide)]; rfl) (by decide) ?_
    refine lv_ldc (v := (-2147483648)) G.1 G.2.1 G.2.2.2.2.2.2.1 (G.2.2.2.2.2.1 _ q1611) d_Ck_want_246 ?_
    exact hret _ _ _ _ _ _ _ ls h hP hD hS (Nat.le_refl _) (Nat.le_refl _) d_Ck_want_248
  refine lv_icmp_lt (tgt := 108) G.1 G.2.1 d_Ck_want_6 (by decide) (fun c6 => ?_) (fun c6 => ?_)
  · skip
    have h := h.1 c6
    exact J_108 σ v1 H locs h hP hD hS ls (lv_sub hl [0, 1] rfl)
  · skip
    have h := h.2 c6
    refine lv_aload_n G.1 G.2.1 d_Ck_want_9 rfl (lv_at hl 0 rfl) ?_
    refine ugf (v := .int (sV σ a0 12)) G hP h_a0 iCk rfl 12 (by decide) rfl q663 rfl rfl d_Ck_want_10 ?_
    refine lv_bipush (v := 53) G.1 G.2.1 d_Ck_want_13 (by decide) ?_
    refine lv_icmp_gt (tgt := 108) G.1 G.2.1 d_Ck_want_15 (by decide) (fun c15 => ?_) (fun c15 => ?_)
    · skip
      have h := h.1 c15
      exact J_108 σ v1 H locs h hP hD hS ls (lv_sub hl [0, 1] rfl)
    · skip
      have h := h.2 c15
      refine lv_iload_n G.1 G.2.1 d_Ck_want_18 rfl (lv_at hl 1 rfl) ?_
      refine lv_aload_n G.1 G.2.1 d_Ck_want_19 rfl (lv_at hl 0 rfl) ?_
      refine ugf (v := .int (sV σ a0 13)) G hP h_a0 iCk rfl 13 (by decide) rfl q664 rfl rfl d_Ck_want_20 ?_
      refine W.eq (g2 := F0 m 23 ls [.int (sV σ a0 13), .int v1]) rfl ?_
      refine lv_aload_n G.1 G.2.1 d_Ck_want_23 rfl (lv_at hl 0 rfl) ?_
      refine ugf (v := .int (sV σ a0 12)) G hP h_a0 iCk rfl 12 (by decide) rfl q663 rfl rfl d_Ck_want_24 ?_
      refine lv_bipush (v := 52) G.1 G.2.1 d_Ck_want_27 (by decide) ?_
      have J_37 : ∀ (s_j37 : St) (x1j37 : Int32) (z0j37 : Int32) (z1j37 : Int32) (z2j37 : Int32) (H : Heap) (locs : List Loc), wj_Ck_want_37 y Post a0 s_j37 x1j37 z0j37 z1j37 z2j37 → va_P D CL (ws g ad y s_j37) H → va_D A (ws g ad y s_j37) → va_S A s.heap H locs → ∀ ls, lv_has ls 3 [(0, .ref (ad a0)), (1, .int x1j37)] → W p l e ru_Ck_want s m args below meth c H locs 0 0 Q (F0 m 37 ls [.int z2j37, .int z1j37, .int z0j37]) := by
        intro s_j37 x1j37 z0j37 z1j37 z2j37 H locs h hP hD hS ls hl
        unfold wj_Ck_want_37 at h
        refine lv_isub G.1 G.2.1 d_Ck_want_37 ?_
        refine lv_icmp_ge (tgt := 68) G.1 G.2.1 d_Ck_want_38 (by decide) (fun c38 => ?_) (fun c38 => ?_)
        · skip
          have h := h.1 c38
          refine lv_aload_n G.1 G.2.1 d_Ck_want_68 rfl (lv_at hl 0 rfl) ?_
          refine ugf (v := .int (sV s_j37 a0 12)) G hP h_a0 iCk rfl 12 (by decide) rfl q663 rfl rfl d_Ck_want_69 ?_
          refine lv_bipush (v := 51) G.1 G.2.1 d_Ck_want_72 (by decide) ?_
          refine lv_icmp_eq (tgt := 83) G.1 G.2.1 d_Ck_want_74 (by decide) (fun c74 => ?_) (fun c74 => ?_)
          · skip
            have h := h.1 c74
            refine lv_aload_n G.1 G.2.1 d_Ck_want_83 rfl (lv_at hl 0 rfl) ?_
            refine ugf (v := .int (sV s_j37 a0 14)) G hP h_a0 iCk rfl 14 (by decide) rfl q665 rfl rfl d_Ck_want_84 ?_
            have J_107 : ∀ (s_j107 : St) (z0j107 : Int32) (H : Heap) (locs : List Loc), wj_Ck_want_107 y Post a0 s_j107 z0j107 → va_P D CL (ws g ad y s_j107) H → va_D A (ws g ad y s_j107) → va_S A s.heap H locs → ∀ ls, lv_has ls 3 [] → W p l e ru_Ck_want s m args below meth c H locs 0 0 Q (F0 m 107 ls [.int z0j107]) := by
              intro s_j107 z0j107 H locs h hP hD hS ls hl
              unfold wj_Ck_want_107 at h
              exact hret _ _ _ _ _ _ _ ls h hP hD hS (Nat.le_refl _) (Nat.le_refl _) d_Ck_want_107
            refine lv_if_eq (tgt := 95) G.1 G.2.1 d_Ck_want_87 (by decide) (fun c87 => ?_) (fun c87 => ?_)
            · skip
              have h := h.1 c87
              refine lv_aload_n G.1 G.2.1 d_Ck_want_95 rfl (lv_at hl 0 rfl) ?_
              obtain ⟨b_6, e_7, c_8, h⟩ := h
              refine ugf (v := .ref (ad b_6)) G hP h_a0 iCk rfl 3 (by decide) rfl q654 rfl (by show va_rf ((sO s_j37 a0 3).map ad) = _; rw [e_7]; rfl) d_Ck_want_96 ?_
              refine W.eq (g2 := F0 m 99 ls [.ref (ad b_6)]) rfl ?_
              refine lv_aload_n G.1 G.2.1 d_Ck_want_99 rfl (lv_at hl 0 rfl) ?_
              refine ugf (v := .int (sV s_j37 a0 4)) G hP h_a0 iCk rfl 4 (by decide) rfl q655 rfl rfl d_Ck_want_100 ?_
              refine lv_iconst (v := 0) G.1 G.2.1 d_Ck_want_103 (by decide) ?_
              refine ucVi (As := [.int (sV s_j37 a0 4), .int 0]) (rest := []) G hP hD hS (cu_Wd_of l D g ad y _ s_j37 b_6 (sV s_j37 a0 4) 0 H.size c_8 h) w9_Wd_of q1587 ⟨Nat.le_of_ble_eq_true rfl, Nat.le_of_ble_eq_true rfl⟩ rfl rfl c_8 (q := (RWd, TWd, 17)) rfl rfl hl.1 rfl (Nat.le_of_ble_eq_true rfl) rfl ⟨Nat.le_refl _, Nat.le_refl _⟩ d_Ck_want_104 (fun r_9 s_10 H locs h hP hD hS => ?_)
              exact J_107 s_10 r_9 H locs h hP hD hS ls (lv_sub hl [] rfl)
            · skip
              have h := h.2 c87
              refine lv_ldc (v := (-2147483648)) G.1 G.2.1 G.2.2.2.2.2.2.1 (G.2.2.2.2.2.1 _ q1611) d_Ck_want_90 ?_
              refine lv_goto (tgt := 107) G.1 G.2.1 d_Ck_want_92 (by decide) ?_
              exact J_107 s_j37 (-2147483648) H locs h hP hD hS ls (lv_sub hl [] rfl)
          · skip
            have h := h.2 c74
            refine lv_aload_n G.1 G.2.1 d_Ck_want_77 rfl (lv_at hl 0 rfl) ?_
            refine lv_iconst (v := 1) G.1 G.2.1 d_Ck_want_78 (by decide) ?_
            refine ucVi (As := [.int 1]) (rest := []) G hP hD hS (cu_Ck_operand l D g ad y _ s_j37 a0 1 H.size h_a0 h) w9_Ck_operand q1607 ⟨Nat.le_of_ble_eq_true rfl, Nat.le_of_ble_eq_true rfl⟩ rfl rfl h_a0 (q := (RCk, TCk, 22)) rfl rfl hl.1 rfl (Nat.le_of_ble_eq_true rfl) rfl ⟨Nat.le_refl _, Nat.le_refl _⟩ d_Ck_want_79 (fun r_11 s_12 H locs h hP hD hS => ?_)
            exact hret _ _ _ _ _ _ _ ls h hP hD hS (Nat.le_refl _) (Nat.le_refl _) d_Ck_want_82
        · skip
          have h := h.2 c38
          refine lv_aload_n G.1 G.2.1 d_Ck_want_41 rfl (lv_at hl 0 rfl) ?_
          refine lv_iconst (v := 2) G.1 G.2.1 d_Ck_want_42 (by decide) ?_
          refine ucVi (As := [.int 2]) (rest := []) G hP hD hS (cu_Ck_operand l D g ad y _ s_j37 a0 2 H.size h_a0 h) w9_Ck_operand q1607 ⟨Nat.le_of_ble_eq_true rfl, Nat.le_of_ble_eq_true rfl⟩ rfl rfl h_a0 (q := (RCk, TCk, 22)) rfl rfl hl.1 rfl (Nat.le_of_ble_eq_true rfl) rfl ⟨Nat.le_refl _, Nat.le_refl _⟩ d_Ck_want_43 (fun r_13 s_14 H locs h hP hD hS => ?_)
          refine lv_istore_n (lv' := [(2, .int r_13), (0, .ref (ad a0)), (1, .int x1j37)]) G.1 G.2.1 d_Ck_want_46 rfl hl (by decide) rfl (fun ls hl => ?_)
          refine lv_aload_n G.1 G.2.1 d_Ck_want_47 rfl (lv_at hl 1 rfl) ?_
          refine ugf (v := .ref (ad (lk a0 2))) G hP h_a0 iCk rfl 2 (by decide) rfl q653 rfl rfl d_Ck_want_48 ?_
          refine lv_iload_n G.1 G.2.1 d_Ck_want_51 rfl (lv_at hl 0 rfl) ?_
          refine lv_aload_n G.1 G.2.1 d_Ck_want_52 rfl (lv_at hl 1 rfl) ?_
          refine ugf (v := .ref (ad (lk a0 2))) G hP h_a0 iCk rfl 2 (by decide) rfl q653 rfl rfl d_Ck_want_53 ?_
          refine W.eq (g2 := F0 m 56 ls [.ref (ad (lk a0 2)), .int r_13, .ref (ad (lk a0 2))]) rfl ?_
          refine lv_iload_n G.1 G.2.1 d_Ck_want_56 rfl (lv_at hl 0 rfl) ?_
          refine ucVi (As := [.int r_13]) (rest := [.int r_13, .ref (ad (lk a0 2))]) G hP hD hS (cu_Na_argumentsOf l D g ad y _ s_14 (lk a0 2) r_13 H.size (lk_0_2 h_a0) h) w9_Na_argumentsOf q1588 ⟨Nat.le_of_ble_eq_true rfl, Nat.le_of_ble_eq_true rfl⟩ rfl rfl (lk_0_2 h_a0) (q := (RNa, TNa, 11)) rfl rfl hl.1 rfl (Nat.le_of_ble_eq_true rfl) rfl ⟨Nat.le_refl _, Nat.le_refl _⟩ d_Ck_want_57 (fun r_15 s_16 H locs h hP hD hS => ?_)
          refine lv_iconst (v := 1) G.1 G.2.1 d_Ck_want_60 (by decide) ?_
          refine lv_isub G.1 G.2.1 d_Ck_want_61 ?_
          refine lv_iload_n G.1 G.2.1 d_Ck_want_62 rfl (lv_at hl 2 rfl) ?_
          refine lv_isub G.1 G.2.1 d_Ck_want_63 ?_
          refine ucVi (As := [.int r_13, .int ((r_15 - 1) - x1j37)]) (rest := []) G hP hD hS (cu_Na_typeOf l D g ad y _ s_16 (lk a0 2) r_13 ((r_15 - 1) - x1j37) H.size (lk_0_2 h_a0) h) w9_Na_typeOf q1589 ⟨Nat.le_of_ble_eq_true rfl, Nat.le_of_ble_eq_true rfl⟩ rfl rfl (lk_0_2 h_a0) (q := (RNa, TNa, 11)) rfl rfl hl.1 rfl (Nat.le_of_ble_eq_true rfl) rfl ⟨Nat.le_refl _, Nat.le_refl _⟩ d_Ck_want_64 (fun r_17 s_18 H locs h hP hD hS => ?_)
          exact hret _ _ _ _ _ _ _ ls h hP hD hS (Nat.le_refl _) (Nat.le_refl _) d_Ck_want_67
      refine lv_icmp_ne (tgt := 36) G.1 G.2.1 d_Ck_want_29 (by decide) (fun c29 => ?_) (fun c29 => ?_)
      · skip
        have h := h.1 c29
        refine lv_iconst (v := 1) G.1 G.2.1 d_Ck_want_36 (by decide) ?_
        exact J_37 σ v1 v1 (sV σ a0 13) 1 H locs h hP hD hS ls (lv_sub hl [0, 1] rfl)
      · skip
        have h := h.2 c29
        refine lv_iconst (v := 0) G.1 G.2.1 d_Ck_want_32 (by decide) ?_
        refine lv_goto (tgt := 37) G.1 G.2.1 d_Ck_want_33 (by decide) ?_
        exact J_37 σ v1 v1 (sV σ a0 13) 0 H locs h hP hD hS ls (lv_sub hl [0, 1] rfl)
