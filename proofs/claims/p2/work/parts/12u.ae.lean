theorem q3855 : Cond.methodLink "ClassWorksModel" 859 y_Mo_findLinked ∈ lw_ok := lw_okmem (List.mem_of_getElem? (i := 3855) (by decide +kernel)) rfl
theorem q3858 : Cond.code y_Mo_findLinked b_Mo_findLinked 3 (some .int) ∈ lw_ok := lw_okmem (List.mem_of_getElem? (i := 3858) (by decide +kernel)) rfl
theorem q3857 : Cond.instanceMethod y_Mo_findLinked ∈ lw_ok := lw_okmem (List.mem_of_getElem? (i := 3857) (by decide +kernel)) rfl
theorem q253 : Cond.selects y_Mo_findLinked.cls y_Mo_findLinked y_Mo_findLinked ∈ lw_ok := lw_okmem (List.mem_of_getElem? (i := 253) (by decide +kernel)) rfl
theorem w9_Mo_findLinked : CWv y_Mo_findLinked b_Mo_findLinked 3 (some .int) 1 ∧ Cond.instanceMethod y_Mo_findLinked ∈ lw_ok ∧ Cond.selects y_Mo_findLinked.cls y_Mo_findLinked y_Mo_findLinked ∈ lw_ok := ⟨⟨q3858, q348, by decide +kernel, by decide +kernel, by decide +kernel⟩, q3857, q253⟩
theorem q3863 : Cond.methodLink "ClassWorksModel" 862 y_Mo_inFaces ∈ lw_ok := lw_okmem (List.mem_of_getElem? (i := 3863) (by decide +kernel)) rfl
theorem q3866 : Cond.code y_Mo_inFaces b_Mo_inFaces 8 (some .int) ∈ lw_ok := lw_okmem (List.mem_of_getElem? (i := 3866) (by decide +kernel)) rfl
theorem q3865 : Cond.instanceMethod y_Mo_inFaces ∈ lw_ok := lw_okmem (List.mem_of_getElem? (i := 3865) (by decide +kernel)) rfl
theorem q255 : Cond.selects y_Mo_inFaces.cls y_Mo_inFaces y_Mo_inFaces ∈ lw_ok := lw_okmem (List.mem_of_getElem? (i := 255) (by decide +kernel)) rfl
theorem w9_Mo_inFaces : CWv y_Mo_inFaces b_Mo_inFaces 8 (some .int) 4 ∧ Cond.instanceMethod y_Mo_inFaces ∈ lw_ok ∧ Cond.selects y_Mo_inFaces.cls y_Mo_inFaces y_Mo_inFaces ∈ lw_ok := ⟨⟨q3866, q348, by decide +kernel, by decide +kernel, by decide +kernel⟩, q3865, q255⟩
def y_Mo_findMethod : MethodName := ⟨"ClassWorksModel", "findMethod", "(IIIII)I"⟩
abbrev b_Mo_findMethod : ByteArray := prog_14_method_84_code
theorem d_Mo_findMethod_0 : decode b_Mo_findMethod 0 = .ok (.aload_n 0, 1) := by decide +kernel
theorem d_Mo_findMethod_1 : decode b_Mo_findMethod 1 = .ok (.iload_n 2, 1) := by decide +kernel
theorem d_Mo_findMethod_2 : decode b_Mo_findMethod 2 = .ok (.invokevirtual 859, 3) := by decide +kernel
theorem d_Mo_findMethod_5 : decode b_Mo_findMethod 5 = .ok (.istore 6, 2) := by decide +kernel
theorem d_Mo_findMethod_7 : decode b_Mo_findMethod 7 = .ok (.iload 6, 2) := by decide +kernel
theorem d_Mo_findMethod_9 : decode b_Mo_findMethod 9 = .ok (.ifCond .ge 5, 3) := by decide +kernel
theorem d_Mo_findMethod_12 : decode b_Mo_findMethod 12 = .ok (.iconst (-1), 1) := by decide +kernel
theorem d_Mo_findMethod_13 : decode b_Mo_findMethod 13 = .ok (.ireturn, 1) := by decide +kernel
theorem d_Mo_findMethod_14 : decode b_Mo_findMethod 14 = .ok (.aload_n 0, 1) := by decide +kernel
theorem d_Mo_findMethod_15 : decode b_Mo_findMethod 15 = .ok (.getfield 522, 3) := by decide +kernel
theorem d_Mo_findMethod_18 : decode b_Mo_findMethod 18 = .ok (.getfield 429, 3) := by decide +kernel
theorem d_Mo_findMethod_21 : decode b_Mo_findMethod 21 = .ok (.iload 6, 2) := by decide +kernel
theorem d_Mo_findMethod_23 : decode b_Mo_findMethod 23 = .ok (.iaload, 1) := by decide +kernel
theorem d_Mo_findMethod_24 : decode b_Mo_findMethod 24 = .ok (.iconst 4, 1) := by decide +kernel
theorem d_Mo_findMethod_25 : decode b_Mo_findMethod 25 = .ok (.iand, 1) := by decide +kernel
theorem d_Mo_findMethod_26 : decode b_Mo_findMethod 26 = .ok (.ifCond .eq 7, 3) := by decide +kernel
theorem d_Mo_findMethod_29 : decode b_Mo_findMethod 29 = .ok (.iconst 1, 1) := by decide +kernel
theorem d_Mo_findMethod_30 : decode b_Mo_findMethod 30 = .ok (.goto 4, 3) := by decide +kernel
theorem d_Mo_findMethod_33 : decode b_Mo_findMethod 33 = .ok (.iconst 0, 1) := by decide +kernel
theorem d_Mo_findMethod_34 : decode b_Mo_findMethod 34 = .ok (.istore 7, 2) := by decide +kernel
theorem d_Mo_findMethod_36 : decode b_Mo_findMethod 36 = .ok (.iload_n 1, 1) := by decide +kernel
theorem d_Mo_findMethod_37 : decode b_Mo_findMethod 37 = .ok (.bipush 50, 2) := by decide +kernel
theorem d_Mo_findMethod_39 : decode b_Mo_findMethod 39 = .ok (.if_icmp .ne 8, 3) := by decide +kernel
theorem d_Mo_findMethod_42 : decode b_Mo_findMethod 42 = .ok (.iload 7, 2) := by decide +kernel
theorem d_Mo_findMethod_44 : decode b_Mo_findMethod 44 = .ok (.ifCond .ne 14, 3) := by decide +kernel
theorem d_Mo_findMethod_47 : decode b_Mo_findMethod 47 = .ok (.iload_n 1, 1) := by decide +kernel
theorem d_Mo_findMethod_48 : decode b_Mo_findMethod 48 = .ok (.bipush 53, 2) := by decide +kernel
theorem d_Mo_findMethod_50 : decode b_Mo_findMethod 50 = .ok (.if_icmp .ne 17, 3) := by decide +kernel
theorem d_Mo_findMethod_53 : decode b_Mo_findMethod 53 = .ok (.iload 7, 2) := by decide +kernel
theorem d_Mo_findMethod_55 : decode b_Mo_findMethod 55 = .ok (.ifCond .ne 12, 3) := by decide +kernel
theorem d_Mo_findMethod_58 : decode b_Mo_findMethod 58 = .ok (.aload_n 0, 1) := by decide +kernel
theorem d_Mo_findMethod_59 : decode b_Mo_findMethod 59 = .ok (.bipush 56, 2) := by decide +kernel
theorem d_Mo_findMethod_61 : decode b_Mo_findMethod 61 = .ok (.bipush 15, 2) := by decide +kernel
theorem d_Mo_findMethod_63 : decode b_Mo_findMethod 63 = .ok (.invokevirtual 850, 3) := by decide +kernel
theorem d_Mo_findMethod_66 : decode b_Mo_findMethod 66 = .ok (.ireturn, 1) := by decide +kernel
theorem d_Mo_findMethod_67 : decode b_Mo_findMethod 67 = .ok (.bipush (-2), 2) := by decide +kernel
theorem d_Mo_findMethod_69 : decode b_Mo_findMethod 69 = .ok (.istore 8, 2) := by decide +kernel
theorem d_Mo_findMethod_71 : decode b_Mo_findMethod 71 = .ok (.iload 6, 2) := by decide +kernel
theorem d_Mo_findMethod_73 : decode b_Mo_findMethod 73 = .ok (.istore 9, 2) := by decide +kernel
theorem d_Mo_findMethod_75 : decode b_Mo_findMethod 75 = .ok (.iload 9, 2) := by decide +kernel
theorem d_Mo_findMethod_77 : decode b_Mo_findMethod 77 = .ok (.ifCond .lt 51, 3) := by decide +kernel
theorem d_Mo_findMethod_80 : decode b_Mo_findMethod 80 = .ok (.iload 8, 2) := by decide +kernel
theorem d_Mo_findMethod_82 : decode b_Mo_findMethod 82 = .ok (.ifCond .ge 46, 3) := by decide +kernel
theorem d_Mo_findMethod_85 : decode b_Mo_findMethod 85 = .ok (.iload_n 3, 1) := by decide +kernel
theorem d_Mo_findMethod_86 : decode b_Mo_findMethod 86 = .ok (.aload_n 0, 1) := by decide +kernel
theorem d_Mo_findMethod_87 : decode b_Mo_findMethod 87 = .ok (.getfield 127, 3) := by decide +kernel
theorem d_Mo_findMethod_90 : decode b_Mo_findMethod 90 = .ok (.if_icmp .eq 38, 3) := by decide +kernel
theorem d_Mo_findMethod_93 : decode b_Mo_findMethod 93 = .ok (.aload_n 0, 1) := by decide +kernel
theorem d_Mo_findMethod_94 : decode b_Mo_findMethod 94 = .ok (.iload 9, 2) := by decide +kernel
theorem d_Mo_findMethod_96 : decode b_Mo_findMethod 96 = .ok (.iload_n 3, 1) := by decide +kernel
theorem d_Mo_findMethod_97 : decode b_Mo_findMethod 97 = .ok (.iload 4, 2) := by decide +kernel
theorem d_Mo_findMethod_99 : decode b_Mo_findMethod 99 = .ok (.invokevirtual 752, 3) := by decide +kernel
theorem d_Mo_findMethod_102 : decode b_Mo_findMethod 102 = .ok (.istore 8, 2) := by decide +kernel
theorem d_Mo_findMethod_104 : decode b_Mo_findMethod 104 = .ok (.iload_n 3, 1) := by decide +kernel
theorem d_Mo_findMethod_105 : decode b_Mo_findMethod 105 = .ok (.aload_n 0, 1) := by decide +kernel
theorem d_Mo_findMethod_106 : decode b_Mo_findMethod 106 = .ok (.getfield 121, 3) := by decide +kernel
theorem d_Mo_findMethod_109 : decode b_Mo_findMethod 109 = .ok (.if_icmp .ne 8, 3) := by decide +kernel
theorem d_Mo_findMethod_112 : decode b_Mo_findMethod 112 = .ok (.bipush (-2), 2) := by decide +kernel
theorem d_Mo_findMethod_114 : decode b_Mo_findMethod 114 = .ok (.goto 9, 3) := by decide +kernel
theorem d_Mo_findMethod_117 : decode b_Mo_findMethod 117 = .ok (.aload_n 0, 1) := by decide +kernel
theorem d_Mo_findMethod_118 : decode b_Mo_findMethod 118 = .ok (.iload 9, 2) := by decide +kernel
theorem d_Mo_findMethod_120 : decode b_Mo_findMethod 120 = .ok (.invokevirtual 725, 3) := by decide +kernel
theorem d_Mo_findMethod_123 : decode b_Mo_findMethod 123 = .ok (.istore 9, 2) := by decide +kernel
theorem d_Mo_findMethod_125 : decode b_Mo_findMethod 125 = .ok (.goto (-50), 3) := by decide +kernel
theorem d_Mo_findMethod_128 : decode b_Mo_findMethod 128 = .ok (.iload 8, 2) := by decide +kernel
theorem d_Mo_findMethod_130 : decode b_Mo_findMethod 130 = .ok (.ifCond .ge 31, 3) := by decide +kernel
theorem d_Mo_findMethod_133 : decode b_Mo_findMethod 133 = .ok (.iload_n 3, 1) := by decide +kernel
theorem d_Mo_findMethod_134 : decode b_Mo_findMethod 134 = .ok (.aload_n 0, 1) := by decide +kernel
theorem d_Mo_findMethod_135 : decode b_Mo_findMethod 135 = .ok (.getfield 121, 3) := by decide +kernel
theorem d_Mo_findMethod_138 : decode b_Mo_findMethod 138 = .ok (.if_icmp .eq 23, 3) := by decide +kernel
theorem d_Mo_findMethod_141 : decode b_Mo_findMethod 141 = .ok (.iload_n 3, 1) := by decide +kernel
theorem d_Mo_findMethod_142 : decode b_Mo_findMethod 142 = .ok (.aload_n 0, 1) := by decide +kernel
theorem d_Mo_findMethod_143 : decode b_Mo_findMethod 143 = .ok (.getfield 127, 3) := by decide +kernel
theorem d_Mo_findMethod_146 : decode b_Mo_findMethod 146 = .ok (.if_icmp .eq 15, 3) := by decide +kernel
theorem d_Mo_findMethod_149 : decode b_Mo_findMethod 149 = .ok (.aload_n 0, 1) := by decide +kernel
theorem d_Mo_findMethod_150 : decode b_Mo_findMethod 150 = .ok (.iload 6, 2) := by decide +kernel
theorem d_Mo_findMethod_152 : decode b_Mo_findMethod 152 = .ok (.iload_n 3, 1) := by decide +kernel
theorem d_Mo_findMethod_153 : decode b_Mo_findMethod 153 = .ok (.iload 4, 2) := by decide +kernel
theorem d_Mo_findMethod_155 : decode b_Mo_findMethod 155 = .ok (.iconst 0, 1) := by decide +kernel
theorem d_Mo_findMethod_156 : decode b_Mo_findMethod 156 = .ok (.invokevirtual 862, 3) := by decide +kernel
theorem d_Mo_findMethod_159 : decode b_Mo_findMethod 159 = .ok (.istore 8, 2) := by decide +kernel
theorem d_Mo_findMethod_161 : decode b_Mo_findMethod 161 = .ok (.iload 8, 2) := by decide +kernel
theorem d_Mo_findMethod_163 : decode b_Mo_findMethod 163 = .ok (.ifCond .ge 12, 3) := by decide +kernel
theorem d_Mo_findMethod_166 : decode b_Mo_findMethod 166 = .ok (.aload_n 0, 1) := by decide +kernel
theorem d_Mo_findMethod_167 : decode b_Mo_findMethod 167 = .ok (.bipush 52, 2) := by decide +kernel
theorem d_Mo_findMethod_169 : decode b_Mo_findMethod 169 = .ok (.bipush 13, 2) := by decide +kernel
theorem d_Mo_findMethod_171 : decode b_Mo_findMethod 171 = .ok (.invokevirtual 850, 3) := by decide +kernel
theorem d_Mo_findMethod_174 : decode b_Mo_findMethod 174 = .ok (.ireturn, 1) := by decide +kernel
theorem d_Mo_findMethod_175 : decode b_Mo_findMethod 175 = .ok (.aload_n 0, 1) := by decide +kernel
theorem d_Mo_findMethod_176 : decode b_Mo_findMethod 176 = .ok (.getfield 522, 3) := by decide +kernel
theorem d_Mo_findMethod_179 : decode b_Mo_findMethod 179 = .ok (.getfield 453, 3) := by decide +kernel
theorem d_Mo_findMethod_182 : decode b_Mo_findMethod 182 = .ok (.iload 8, 2) := by decide +kernel
theorem d_Mo_findMethod_184 : decode b_Mo_findMethod 184 = .ok (.iaload, 1) := by decide +kernel
theorem d_Mo_findMethod_185 : decode b_Mo_findMethod 185 = .ok (.istore 9, 2) := by decide +kernel
theorem d_Mo_findMethod_187 : decode b_Mo_findMethod 187 = .ok (.aload_n 0, 1) := by decide +kernel
theorem d_Mo_findMethod_188 : decode b_Mo_findMethod 188 = .ok (.iconst 5, 1) := by decide +kernel
theorem d_Mo_findMethod_189 : decode b_Mo_findMethod 189 = .ok (.invokevirtual 609, 3) := by decide +kernel
theorem d_Mo_findMethod_192 : decode b_Mo_findMethod 192 = .ok (.ifCond .ne 36, 3) := by decide +kernel
theorem d_Mo_findMethod_195 : decode b_Mo_findMethod 195 = .ok (.iload 9, 2) := by decide +kernel
theorem d_Mo_findMethod_197 : decode b_Mo_findMethod 197 = .ok (.iconst 4, 1) := by decide +kernel
theorem d_Mo_findMethod_198 : decode b_Mo_findMethod 198 = .ok (.iand, 1) := by decide +kernel
theorem d_Mo_findMethod_199 : decode b_Mo_findMethod 199 = .ok (.ifCond .eq 29, 3) := by decide +kernel
theorem d_Mo_findMethod_202 : decode b_Mo_findMethod 202 = .ok (.iload 5, 2) := by decide +kernel
theorem d_Mo_findMethod_204 : decode b_Mo_findMethod 204 = .ok (.bipush (-3), 2) := by decide +kernel
theorem d_Mo_findMethod_206 : decode b_Mo_findMethod 206 = .ok (.if_icmp .eq 22, 3) := by decide +kernel
theorem d_Mo_findMethod_209 : decode b_Mo_findMethod 209 = .ok (.iload 8, 2) := by decide +kernel
theorem d_Mo_findMethod_211 : decode b_Mo_findMethod 211 = .ok (.bipush 12, 2) := by decide +kernel
theorem d_Mo_findMethod_213 : decode b_Mo_findMethod 213 = .ok (.idiv, 1) := by decide +kernel
theorem d_Mo_findMethod_214 : decode b_Mo_findMethod 214 = .ok (.iload 5, 2) := by decide +kernel
theorem d_Mo_findMethod_216 : decode b_Mo_findMethod 216 = .ok (.if_icmp .eq 12, 3) := by decide +kernel
theorem d_Mo_findMethod_219 : decode b_Mo_findMethod 219 = .ok (.aload_n 0, 1) := by decide +kernel
theorem d_Mo_findMethod_220 : decode b_Mo_findMethod 220 = .ok (.bipush 53, 2) := by decide +kernel
theorem d_Mo_findMethod_222 : decode b_Mo_findMethod 222 = .ok (.bipush 14, 2) := by decide +kernel
theorem d_Mo_findMethod_224 : decode b_Mo_findMethod 224 = .ok (.invokevirtual 850, 3) := by decide +kernel
theorem d_Mo_findMethod_227 : decode b_Mo_findMethod 227 = .ok (.ireturn, 1) := by decide +kernel
theorem d_Mo_findMethod_228 : decode b_Mo_findMethod 228 = .ok (.iload 9, 2) := by decide +kernel
theorem d_Mo_findMethod_230 : decode b_Mo_findMethod 230 = .ok (.iconst 1, 1) := by decide +kernel
theorem d_Mo_findMethod_231 : decode b_Mo_findMethod 231 = .ok (.iand, 1) := by decide +kernel
theorem d_Mo_findMethod_232 : decode b_Mo_findMethod 232 = .ok (.ifCond .eq 7, 3) := by decide +kernel
theorem d_Mo_findMethod_235 : decode b_Mo_findMethod 235 = .ok (.iconst 1, 1) := by decide +kernel
theorem d_Mo_findMethod_236 : decode b_Mo_findMethod 236 = .ok (.goto 4, 3) := by decide +kernel
theorem d_Mo_findMethod_239 : decode b_Mo_findMethod 239 = .ok (.iconst 0, 1) := by decide +kernel
theorem d_Mo_findMethod_240 : decode b_Mo_findMethod 240 = .ok (.iload_n 1, 1) := by decide +kernel
theorem d_Mo_findMethod_241 : decode b_Mo_findMethod 241 = .ok (.bipush 52, 2) := by decide +kernel
theorem d_Mo_findMethod_243 : decode b_Mo_findMethod 243 = .ok (.if_icmp .ne 7, 3) := by decide +kernel
theorem d_Mo_findMethod_246 : decode b_Mo_findMethod 246 = .ok (.iconst 1, 1) := by decide +kernel
theorem d_Mo_findMethod_247 : decode b_Mo_findMethod 247 = .ok (.goto 4, 3) := by decide +kernel
theorem d_Mo_findMethod_250 : decode b_Mo_findMethod 250 = .ok (.iconst 0, 1) := by decide +kernel
theorem d_Mo_findMethod_251 : decode b_Mo_findMethod 251 = .ok (.if_icmp .eq 12, 3) := by decide +kernel
theorem d_Mo_findMethod_254 : decode b_Mo_findMethod 254 = .ok (.aload_n 0, 1) := by decide +kernel
theorem d_Mo_findMethod_255 : decode b_Mo_findMethod 255 = .ok (.bipush 55, 2) := by decide +kernel
theorem d_Mo_findMethod_257 : decode b_Mo_findMethod 257 = .ok (.bipush 15, 2) := by decide +kernel
theorem d_Mo_findMethod_259 : decode b_Mo_findMethod 259 = .ok (.invokevirtual 850, 3) := by decide +kernel
theorem d_Mo_findMethod_262 : decode b_Mo_findMethod 262 = .ok (.ireturn, 1) := by decide +kernel
theorem d_Mo_findMethod_263 : decode b_Mo_findMethod 263 = .ok (.iload_n 1, 1) := by decide +kernel
theorem d_Mo_findMethod_264 : decode b_Mo_findMethod 264 = .ok (.bipush 52, 2) := by decide +kernel
theorem d_Mo_findMethod_266 : decode b_Mo_findMethod 266 = .ok (.if_icmp .eq 16, 3) := by decide +kernel
theorem d_Mo_findMethod_269 : decode b_Mo_findMethod 269 = .ok (.iload_n 1, 1) := by decide +kernel
theorem d_Mo_findMethod_270 : decode b_Mo_findMethod 270 = .ok (.bipush 51, 2) := by decide +kernel
theorem d_Mo_findMethod_272 : decode b_Mo_findMethod 272 = .ok (.if_icmp .eq 10, 3) := by decide +kernel
theorem d_Mo_findMethod_275 : decode b_Mo_findMethod 275 = .ok (.iload 9, 2) := by decide +kernel
theorem d_Mo_findMethod_277 : decode b_Mo_findMethod 277 = .ok (.iconst 4, 1) := by decide +kernel
theorem d_Mo_findMethod_278 : decode b_Mo_findMethod 278 = .ok (.iand, 1) := by decide +kernel
theorem d_Mo_findMethod_279 : decode b_Mo_findMethod 279 = .ok (.ifCond .eq 20, 3) := by decide +kernel
theorem d_Mo_findMethod_282 : decode b_Mo_findMethod 282 = .ok (.iload 9, 2) := by decide +kernel
theorem d_Mo_findMethod_284 : decode b_Mo_findMethod 284 = .ok (.bipush 8, 2) := by decide +kernel
theorem d_Mo_findMethod_286 : decode b_Mo_findMethod 286 = .ok (.iand, 1) := by decide +kernel
theorem d_Mo_findMethod_287 : decode b_Mo_findMethod 287 = .ok (.ifCond .eq 12, 3) := by decide +kernel
theorem d_Mo_findMethod_290 : decode b_Mo_findMethod 290 = .ok (.aload_n 0, 1) := by decide +kernel
theorem d_Mo_findMethod_291 : decode b_Mo_findMethod 291 = .ok (.bipush 58, 2) := by decide +kernel
theorem d_Mo_findMethod_293 : decode b_Mo_findMethod 293 = .ok (.bipush 18, 2) := by decide +kernel
theorem d_Mo_findMethod_295 : decode b_Mo_findMethod 295 = .ok (.invokevirtual 850, 3) := by decide +kernel
theorem d_Mo_findMethod_298 : decode b_Mo_findMethod 298 = .ok (.ireturn, 1) := by decide +kernel
theorem d_Mo_findMethod_299 : decode b_Mo_findMethod 299 = .ok (.iload 8, 2) := by decide +kernel
theorem d_Mo_findMethod_301 : decode b_Mo_findMethod 301 = .ok (.ireturn, 1) := by decide +kernel
abbrev ru_Mo_findMethod : Room := { frames := 470, cells := 0, slots := 0, locals := 11432 }
def wj_Mo_findMethod_58 (y : Ly) (Post : St → Int32 → Prop) (a0 : Nat) (s_j58 : St) : Prop := wu_Mo_fails y (fun (s_8 : St) (r_7 : Int32) => Post s_8 r_7) s_j58 a0 56 15
def wj_Mo_findMethod_299 (y : Ly) (Post : St → Int32 → Prop) (a0 : Nat) (s_j299 : St) (x8j299 : Int32) : Prop := Post s_j299 x8j299
def wj_Mo_findMethod_282 (y : Ly) (Post : St → Int32 → Prop) (a0 : Nat) (s_j282 : St) (x8j282 : Int32) (x9j282 : Int32) : Prop := (((x9j282 &&& 8) = 0 → wj_Mo_findMethod_299 y Post a0 s_j282 x8j282) ∧ (¬ ((x9j282 &&& 8) = 0) → wu_Mo_fails y (fun (s_16 : St) (r_15 : Int32) => Post s_16 r_15) s_j282 a0 58 18))
def wj_Mo_findMethod_251 (y : Ly) (Post : St → Int32 → Prop) (a0 : Nat) (s_j251 : St) (x1j251 : Int32) (x8j251 : Int32) (x9j251 : Int32) (z0j251 : Int32) (z1j251 : Int32) : Prop := ((z0j251 = z1j251 → ((x1j251 = 52 → wj_Mo_findMethod_282 y Post a0 s_j251 x8j251 x9j251) ∧ (¬ (x1j251 = 52) → ((x1j251 = 51 → wj_Mo_findMethod_282 y Post a0 s_j251 x8j251 x9j251) ∧ (¬ (x1j251 = 51) → (((x9j251 &&& 4) = 0 → wj_Mo_findMethod_299 y Post a0 s_j251 x8j251) ∧ (¬ ((x9j251 &&& 4) = 0) → wj_Mo_findMethod_282 y Post a0 s_j251 x8j251 x9j251))))))) ∧ (¬ (z0j251 = z1j251) → wu_Mo_fails y (fun (s_18 : St) (r_17 : Int32) => Post s_18 r_17) s_j251 a0 55 15))
def wj_Mo_findMethod_240 (y : Ly) (Post : St → Int32 → Prop) (a0 : Nat) (s_j240 : St) (x1j240 : Int32) (x8j240 : Int32) (x9j240 : Int32) (z0j240 : Int32) : Prop := ((¬ x1j240 = 52 → wj_Mo_findMethod_251 y Post a0 s_j240 x1j240 x8j240 x9j240 z0j240 0) ∧ (x1j240 = 52 → wj_Mo_findMethod_251 y Post a0 s_j240 x1j240 x8j240 x9j240 z0j240 1))
def wj_Mo_findMethod_228 (y : Ly) (Post : St → Int32 → Prop) (a0 : Nat) (s_j228 : St) (x1j228 : Int32) (x8j228 : Int32) (x9j228 : Int32) : Prop := (((x9j228 &&& 1) = 0 → wj_Mo_findMethod_240 y Post a0 s_j228 x1j228 x8j228 x9j228 0) ∧ (¬ ((x9j228 &&& 1) = 0) → wj_Mo_findMethod_240 y Post a0 s_j228 x1j228 x8j228 x9j228 1))
def wj_Mo_findMethod_161 (y : Ly) (Post : St → Int32 → Prop) (a0 : Nat) (s_j161 : St) (x1j161 : Int32) (x5j161 : Int32) (x8j161 : Int32) : Prop := ((0 ≤ x8j161 → ∃ b_9 : Nat, sO s_j161 a0 45 = some b_9 ∧ cl b_9 = 13 ∧ xA y s_j161 b_9 20 x8j161 (fun x_12 : Int32 => wu_Mo_isOff y (fun (s_14 : St) (r_13 : Int32) => ((¬ r_13 = 0 → wj_Mo_findMethod_228 y Post a0 s_14 x1j161 x8j161 x_12) ∧ (r_13 = 0 → (((x_12 &&& 4) = 0 → wj_Mo_findMethod_228 y Post a0 s_14 x1j161 x8j161 x_12) ∧ (¬ ((x_12 &&& 4) = 0) → ((x5j161 = (-3) → wj_Mo_findMethod_228 y Post a0 s_14 x1j161 x8j161 x_12) ∧ (¬ (x5j161 = (-3)) → (((x8j161 / 12) = x5j161 → wj_Mo_findMethod_228 y Post a0 s_14 x1j161 x8j161 x_12) ∧ (¬ ((x8j161 / 12) = x5j161) → wu_Mo_fails y (fun (s_20 : St) (r_19 : Int32) => Post s_20 r_19) s_14 a0 53 14))))))))) s_j161 a0 5)) ∧ (¬ (0 ≤ x8j161) → wu_Mo_fails y (fun (s_22 : St) (r_21 : Int32) => Post s_22 r_21) s_j161 a0 52 13))
def wj_Mo_findMethod_128 (y : Ly) (Post : St → Int32 → Prop) (a0 : Nat) (s_j128 : St) (x1j128 : Int32) (x3j128 : Int32) (x4j128 : Int32) (x5j128 : Int32) (x6j128 : Int32) (x8j128 : Int32) : Prop := ((0 ≤ x8j128 → wj_Mo_findMethod_161 y Post a0 s_j128 x1j128 x5j128 x8j128) ∧ (¬ (0 ≤ x8j128) → ((x3j128 = (sV s_j128 a0 6) → wj_Mo_findMethod_161 y Post a0 s_j128 x1j128 x5j128 x8j128) ∧ (¬ (x3j128 = (sV s_j128 a0 6)) → ((x3j128 = (sV s_j128 a0 7) → wj_Mo_findMethod_161 y Post a0 s_j128 x1j128 x5j128 x8j128) ∧ (¬ (x3j128 = (sV s_j128 a0 7)) → wu_Mo_inFaces y (fun (s_24 : St) (r_23 : Int32) => wj_Mo_findMethod_161 y Post a0 s_24 x1j128 x5j128 r_23) s_j128 a0 x6j128 x3j128 x4j128 0))))))
def wj_Mo_findMethod_123 (y : Ly) (Post : St → Int32 → Prop) (K_75 : St → Int32 → Int32 → Int32 → Int32 → Int32 → Int32 → Int32 → Prop) (a0 : Nat) (s_j123 : St) (x1j123 : Int32) (x3j123 : Int32) (x4j123 : Int32) (x5j123 : Int32) (x6j123 : Int32) (x8j123 : Int32) (z0j123 : Int32) : Prop := K_75 s_j123 x1j123 x3j123 x4j123 x5j123 x6j123 x8j123 z0j123
def wb_Mo_findMethod_75 (y : Ly) (Post : St → Int32 → Prop) (K_75 : St → Int32 → Int32 → Int32 → Int32 → Int32 → Int32 → Int32 → Prop) (a0 : Nat) (s_h75 : St) (x1h75 : Int32) (x3h75 : Int32) (x4h75 : Int32) (x5h75 : Int32) (x6h75 : Int32) (x8h75 : Int32) (x9h75 : Int32) : Prop := ((x9h75 < 0 → wj_Mo_findMethod_128 y Post a0 s_h75 x1h75 x3h75 x4h75 x5h75 x6h75 x8h75) ∧ (¬ (x9h75 < 0) → ((0 ≤ x8h75 → wj_Mo_findMethod_128 y Post a0 s_h75 x1h75 x3h75 x4h75 x5h75 x6h75 x8h75) ∧ (¬ (0 ≤ x8h75) → ((x3h75 = (sV s_h75 a0 7) → wj_Mo_findMethod_128 y Post a0 s_h75 x1h75 x3h75 x4h75 x5h75 x6h75 x8h75) ∧ (¬ (x3h75 = (sV s_h75 a0 7)) → wu_Mo_methodIn y (fun (s_26 : St) (r_25 : Int32) => ((¬ x3h75 = (sV s_26 a0 6) → wu_Mo_parentOf y (fun (s_28 : St) (r_27 : Int32) => wj_Mo_findMethod_123 y Post K_75 a0 s_28 x1h75 x3h75 x4h75 x5h75 x6h75 r_25 r_27) s_26 a0 x9h75) ∧ (x3h75 = (sV s_26 a0 6) → wj_Mo_findMethod_123 y Post K_75 a0 s_26 x1h75 x3h75 x4h75 x5h75 x6h75 r_25 (-2)))) s_h75 a0 x9h75 x3h75 x4h75))))))
def wl_Mo_findMethod_75 (y : Ly) (Post : St → Int32 → Prop) (a0 : Nat) (s_h75 : St) (x1h75 : Int32) (x3h75 : Int32) (x4h75 : Int32) (x5h75 : Int32) (x6h75 : Int32) (x8h75 : Int32) (x9h75 : Int32) : Prop := ∃ (I : St → Int32 → Int32 → Int32 → Int32 → Int32 → Int32 → Int32 → Prop) (μ : St → Int32 → Int32 → Int32 → Int32 → Int32 → Int32 → Int32 → Nat), I s_h75 x1h75 x3h75 x4h75 x5h75 x6h75 x8h75 x9h75 ∧ ∀ (u : St) (t0 : Int32) (t1 : Int32) (t2 : Int32) (t3 : Int32) (t4 : Int32) (t5 : Int32) (t6 : Int32), I u t0 t1 t2 t3 t4 t5 t6 → wb_Mo_findMethod_75 y Post (fun z t0q t1q t2q t3q t4q t5q t6q => I z t0q t1q t2q t3q t4q t5q t6q ∧ μ z t0q t1q t2q t3q t4q t5q t6q < μ u t0 t1 t2 t3 t4 t5 t6) a0 u t0 t1 t2 t3 t4 t5 t6
def wj_Mo_findMethod_67 (y : Ly) (Post : St → Int32 → Prop) (a0 : Nat) (s_j67 : St) (x1j67 : Int32) (x3j67 : Int32) (x4j67 : Int32) (x5j67 : Int32) (x6j67 : Int32) : Prop := wl_Mo_findMethod_75 y Post a0 s_j67 x1j67 x3j67 x4j67 x5j67 x6j67 (-2) x6j67
def wj_Mo_findMethod_47 (y : Ly) (Post : St → Int32 → Prop) (a0 : Nat) (s_j47 : St) (x1j47 : Int32) (x3j47 : Int32) (x4j47 : Int32) (x5j47 : Int32) (x6j47 : Int32) (x7j47 : Int32) : Prop := ((¬ x1j47 = 53 → wj_Mo_findMethod_67 y Post a0 s_j47 x1j47 x3j47 x4j47 x5j47 x6j47) ∧ (x1j47 = 53 → ((¬ x7j47 = 0 → wj_Mo_findMethod_67 y Post a0 s_j47 x1j47 x3j47 x4j47 x5j47 x6j47) ∧ (x7j47 = 0 → wj_Mo_findMethod_58 y Post a0 s_j47))))
def wj_Mo_findMethod_34 (y : Ly) (Post : St → Int32 → Prop) (a0 : Nat) (s_j34 : St) (x1j34 : Int32) (x3j34 : Int32) (x4j34 : Int32) (x5j34 : Int32) (x6j34 : Int32) (z0j34 : Int32) : Prop := ((¬ x1j34 = 50 → wj_Mo_findMethod_47 y Post a0 s_j34 x1j34 x3j34 x4j34 x5j34 x6j34 z0j34) ∧ (x1j34 = 50 → ((¬ z0j34 = 0 → wj_Mo_findMethod_58 y Post a0 s_j34) ∧ (z0j34 = 0 → wj_Mo_findMethod_47 y Post a0 s_j34 x1j34 x3j34 x4j34 x5j34 x6j34 z0j34))))
def wu_Mo_findMethod (y : Ly) (Post : St → Int32 → Prop) (σ : St) (a0 : Nat) (v1 : Int32) (v2 : Int32) (v3 : Int32) (v4 : Int32) (v5 : Int32) : Prop := wu_Mo_findLinked y (fun (s_2 : St) (r_1 : Int32) => ((0 ≤ r_1 → ∃ b_3 : Nat, sO s_2 a0 45 = some b_3 ∧ cl b_3 = 13 ∧ xA y s_2 b_3 5 r_1 (fun x_6 : Int32 => (((x_6 &&& 4) = 0 → wj_Mo_findMethod_34 y Post a0 s_2 v1 v3 v4 v5 r_1 0) ∧ (¬ ((x_6 &&& 4) = 0) → wj_Mo_findMethod_34 y Post a0 s_2 v1 v3 v4 v5 r_1 1)))) ∧ (¬ (0 ≤ r_1) → Post s_2 (-1)))) σ a0 v2
set_option maxHeartbeats 4000000 in
set_option maxRecDepth 100000 in
theorem cu_Mo_findMethod (l : Launch) (D : va_G) (g : Nat → ClassId) (ad : Nat → Nat) (y : Ly) (Post : St → Int32 → Prop) (σ : St) (a0 : Nat) (v1 : Int32) (v2 : Int32) (v3 : Int32) (v4 : Int32) (v5 : Int32) (sz : Nat) (h_a0 : cl a0 = 14) (h : wu_Mo_findMethod y Post σ a0 v1 v2 v3 v4 v5) : Met l y_Mo_findMethod (mw y_Mo_findMethod b_Mo_findMethod 10 (some .int)) ru_Mo_findMethod (PC g D [] [.ref (ad a0), .int v1, .int v2, .int v3, .int v4, .int v5] sz (ws g ad y σ)) (va_Qi (fun (r : Int32) (u : St) => Post u r) (QW D (va_A (ws g ad y σ) sz) (fun u => ws g ad y u)) (va_A (ws g ad y σ) sz)) 0 0 (va_A (ws g ad y σ) sz) := by
  refine ofI (by decide +kernel) (Nat.le_of_ble_eq_true rfl) ?_
  intro p e s m args below meth c A Q ls H locs G hsz hP hD hS hl hret
  subst hsz
  have hl : lv_has ls 10 [(0, .ref (ad a0)), (1, .int v1), (2, .int v2), (3, .int v3), (4, .int v4), (5, .int v5)] := hl
  unfold wu_Mo_findMethod at h
  refine lv_aload_n G.1 G.2.1 d_Mo_findMethod_0 rfl (lv_at hl 0 rfl) ?_
  refine lv_iload_n G.1 G.2.1 d_Mo_findMethod_1 rfl (lv_at hl 2 rfl) ?_
  refine ucVi (As := [.int v2]) (rest := []) G hP hD hS (cu_Mo_findLinked l D g ad y _ σ a0 v2 H.size h_a0 h) w9_Mo_findLinked q3855 ⟨Nat.le_of_ble_eq_true rfl, Nat.le_of_ble_eq_true rfl⟩ rfl rfl h_a0 (q := (RMo, TMo, 131)) rfl rfl hl.1 rfl (Nat.le_of_ble_eq_true rfl) rfl ⟨Nat.le_refl _, Nat.le_refl _⟩ d_Mo_findMethod_2 (fun r_1 s_2 H locs h hP hD hS => ?_)
  refine lv_istore (lv' := [(6, .int r_1), (0, .ref (ad a0)), (1, .int v1), (2, .int v2), (3, .int v3), (4, .int v4), (5, .int v5)]) G.1 G.2.1 d_Mo_findMethod_5 hl (by decide) rfl (fun ls hl => ?_)
  refine lv_iload G.1 G.2.1 d_Mo_findMethod_7 (lv_at hl 0 rfl) ?_
  refine lv_if_ge (tgt := 14) G.1 G.2.1 d_Mo_findMethod_9 (by decide) (fun c9 => ?_) (fun c9 => ?_)
  · skip
    have h := h.1 c9
    refine lv_aload_n G.1 G.2.1 d_Mo_findMethod_14 rfl (lv_at hl 1 rfl) ?_
    obtain ⟨b_3, e_4, c_5, h⟩ := h
    refine ugf (v := .ref (ad b_3)) G hP h_a0 iMo rfl 45 (by decide) rfl q3109 rfl (by show va_rf ((sO s_2 a0 45).map ad) = _; rw [e_4]; rfl) d_Mo_findMethod_15 ?_
    refine ugfN (v := .ref (yP y b_3 5)) G hP c_5 iMw rfl 5 (by decide) rfl q2714 rfl rfl d_Mo_findMethod_18 ?_
    refine lv_iload G.1 G.2.1 d_Mo_findMethod_21 (lv_at hl 0 rfl) ?_
    refine uiald G hP (kdp c_5 rfl) (typ c_5 rfl) h d_Mo_findMethod_23 (fun x_6 h => ?_)
    refine W.eq (g2 := F0 m 24 ls [.int x_6]) rfl ?_
    refine lv_iconst (v := 4) G.1 G.2.1 d_Mo_findMethod_24 (by decide) ?_
    refine lv_iand G.1 G.2.1 d_Mo_findMethod_25 ?_
    have J_34 : ∀ (s_j34 : St) (x1j34 : Int32) (x3j34 : Int32) (x4j34 : Int32) (x5j34 : Int32) (x6j34 : Int32) (z0j34 : Int32) (H : Heap) (locs : List Loc), wj_Mo_findMethod_34 y Post a0 s_j34 x1j34 x3j34 x4j34 x5j34 x6j34 z0j34 → va_P D CL (ws g ad y s_j34) H → va_D A (ws g ad y s_j34) → va_S A s.heap H locs → ∀ ls, lv_has ls 10 [(0, .ref (ad a0)), (1, .int x1j34), (3, .int x3j34), (4, .int x4j34), (5, .int x5j34), (6, .int x6j34)] → W p l e ru_Mo_findMethod s m args below meth c H locs 0 0 Q (F0 m 34 ls [.int z0j34]) := by
      intro s_j34 x1j34 x3j34 x4j34 x5j34 x6j34 z0j34 H locs h hP hD hS ls hl
      unfold wj_Mo_findMethod_34 at h
      refine lv_istore (lv' := [(7, .int z0j34), (0, .ref (ad a0)), (1, .int x1j34), (3, .int x3j34), (4, .int x4j34), (5, .int x5j34), (6, .int x6j34)]) G.1 G.2.1 d_Mo_findMethod_34 hl (by decide) rfl (fun ls hl => ?_)
      refine lv_iload_n G.1 G.2.1 d_Mo_findMethod_36 rfl (lv_at hl 2 rfl) ?_
      refine lv_bipush (v := 50) G.1 G.2.1 d_Mo_findMethod_37 (by decide) ?_
      have J_58 : ∀ (s_j58 : St) (H : Heap) (locs : List Loc), wj_Mo_findMethod_58 y Post a0 s_j58 → va_P D CL (ws g ad y s_j58) H → va_D A (ws g ad y s_j58) → va_S A s.heap H locs → ∀ ls, lv_has ls 10 [(0, .ref (ad a0))] → W p l e ru_Mo_findMethod s m args below meth c H locs 0 0 Q (F0 m 58 ls []) := by
        intro s_j58 H locs h hP hD hS ls hl
        unfold wj_Mo_findMethod_58 at h
        refine lv_aload_n G.1 G.2.1 d_Mo_findMethod_58 rfl (lv_at hl 0 rfl) ?_
        refine lv_bipush (v := 56) G.1 G.2.1 d_Mo_findMethod_59 (by decide) ?_
        refine lv_bipush (v := 15) G.1 G.2.1 d_Mo_findMethod_61 (by decide) ?_
        refine ucVi (As := [.int 56, .int 15]) (rest := []) G hP hD hS (cu_Mo_fails l D g ad y _ s_j58 a0 56 15 H.size h_a0 h) w9_Mo_fails q3859 ⟨Nat.le_of_ble_eq_true rfl, Nat.le_of_ble_eq_true rfl⟩ rfl rfl h_a0 (q := (RMo, TMo, 131)) rfl rfl hl.1 rfl (Nat.le_of_ble_eq_true rfl) rfl ⟨Nat.le_refl _, Nat.le_refl _⟩ d_Mo_findMethod_63 (fun r_7 s_8 H locs h hP hD hS => ?_)
        exact hret _ _ _ _ _ _ _ ls h hP hD hS (Nat.le_refl _) (Nat.le_refl _) d_Mo_findMethod_66
      have J_47 : ∀ (s_j47 : St) (x1j47 : Int32) (x3j47 : Int32) (x4j47 : Int32) (x5j47 : Int32) (x6j47 : Int32) (x7j47 : Int32) (H : Heap) (locs : List Loc), wj_Mo_findMethod_47 y Post a0 s_j47 x1j47 x3j47 x4j47 x5j47 x6j47 x7j47 → va_P D CL (ws g ad y s_j47) H → va_D A (ws g ad y s_j47) → va_S A s.heap H locs → ∀ ls, lv_has ls 10 [(0, .ref (ad a0)), (1, .int x1j47), (3, .int x3j47), (4, .int x4j47), (5, .int x5j47), (6, .int x6j47), (7, .int x7j47)] → W p l e ru_Mo_findMethod s m args below meth c H locs 0 0 Q (F0 m 47 ls []) := by
        intro s_j47 x1j47 x3j47 x4j47 x5j47 x6j47 x7j47 H locs h hP hD hS ls hl
        unfold wj_Mo_findMethod_47 at h
        refine lv_iload_n G.1 G.2.1 d_Mo_findMethod_47 rfl (lv_at hl 1 rfl) ?_
        refine lv_bipush (v := 53) G.1 G.2.1 d_Mo_findMethod_48 (by decide) ?_
        have J_67 : ∀ (s_j67 : St) (x1j67 : Int32) (x3j67 : Int32) (x4j67 : Int32) (x5j67 : Int32) (x6j67 : Int32) (H : Heap) (locs : List Loc), wj_Mo_findMethod_67 y Post a0 s_j67 x1j67 x3j67 x4j67 x5j67 x6j67 → va_P D CL (ws g ad y s_j67) H → va_D A (ws g ad y s_j67) → va_S A s.heap H locs → ∀ ls, lv_has ls 10 [(0, .ref (ad a0)), (1, .int x1j67), (3, .int x3j67), (4, .int x4j67), (5, .int x5j67), (6, .int x6j67)] → W p l e ru_Mo_findMethod s m args below meth c H locs 0 0 Q (F0 m 67 ls []) := by
          intro s_j67 x1j67 x3j67 x4j67 x5j67 x6j67 H locs h hP hD hS ls hl
          unfold wj_Mo_findMethod_67 at h
          refine lv_bipush (v := (-2)) G.1 G.2.1 d_Mo_findMethod_67 (by decide) ?_
          refine lv_istore (lv' := [(8, .int (-2)), (0, .ref (ad a0)), (1, .int x1j67), (3, .int x3j67), (4, .int x4j67), (5, .int x5j67), (6, .int x6j67)]) G.1 G.2.1 d_Mo_findMethod_69 hl (by decide) rfl (fun ls hl => ?_)
          refine lv_iload G.1 G.2.1 d_Mo_findMethod_71 (lv_at hl 6 rfl) ?_
          refine lv_istore (lv' := [(9, .int x6j67), (8, .int (-2)), (0, .ref (ad a0)), (1, .int x1j67), (3, .int x3j67), (4, .int x4j67), (5, .int x5j67), (6, .int x6j67)]) G.1 G.2.1 d_Mo_findMethod_73 hl (by decide) rfl (fun ls hl => ?_)
          unfold wl_Mo_findMethod_75 at h
          obtain ⟨I_75, μ_75, hI_75, hB_75⟩ := h
          have L_75 : ∀ (n_75 : Nat) (s_h75 : St) (x1h75 : Int32) (x3h75 : Int32) (x4h75 : Int32) (x5h75 : Int32) (x6h75 : Int32) (x8h75 : Int32) (x9h75 : Int32), μ_75 s_h75 x1h75 x3h75 x4h75 x5h75 x6h75 x8h75 x9h75 < n_75 → I_75 s_h75 x1h75 x3h75 x4h75 x5h75 x6h75 x8h75 x9h75 → ∀ (H : Heap) (locs : List Loc), va_P D CL (ws g ad y s_h75) H → va_D A (ws g ad y s_h75) → va_S A s.heap H locs → ∀ ls, lv_has ls 10 [(0, .ref (ad a0)), (1, .int x1h75), (3, .int x3h75), (4, .int x4h75), (5, .int x5h75), (6, .int x6h75), (8, .int x8h75), (9, .int x9h75)] → W p l e ru_Mo_findMethod s m args below meth c H locs 0 0 Q (F0 m 75 ls []) := by
            intro n_75
            induction n_75 with
            | zero => intro s_h75 x1h75 x3h75 x4h75 x5h75 x6h75 x8h75 x9h75 hμ; exact absurd hμ (Nat.not_lt_zero _)
            | succ n_75 ih_75 =>
              intro s_h75 x1h75 x3h75 x4h75 x5h75 x6h75 x8h75 x9h75 hμ_75 hJ H locs hP hD hS ls hl
              obtain ⟨K_75, hK_75, h⟩ : ∃ K : St → Int32 → Int32 → Int32 → Int32 → Int32 → Int32 → Int32 → Prop, (∀ z (t0 : Int32) (t1 : Int32) (t2 : Int32) (t3 : Int32) (t4 : Int32) (t5 : Int32) (t6 : Int32), K z t0 t1 t2 t3 t4 t5 t6 → I_75 z t0 t1 t2 t3 t4 t5 t6 ∧ μ_75 z t0 t1 t2 t3 t4 t5 t6 < μ_75 s_h75 x1h75 x3h75 x4h75 x5h75 x6h75 x8h75 x9h75) ∧ wb_Mo_findMethod_75 y Post K a0 s_h75 x1h75 x3h75 x4h75 x5h75 x6h75 x8h75 x9h75 := ⟨_, fun _ _ _ _ _ _ _ _ h => h, hB_75 s_h75 x1h75 x3h75 x4h75 x5h75 x6h75 x8h75 x9h75 hJ⟩
              unfold wb_Mo_findMethod_75 at h
              refine lv_iload G.1 G.2.1 d_Mo_findMethod_75 (lv_at hl 7 rfl) ?_
              have J_128 : ∀ (s_j128 : St) (x1j128 : Int32) (x3j128 : Int32) (x4j128 : Int32) (x5j128 : Int32) (x6j128 : Int32) (x8j128 : Int32) (H : Heap) (locs : List Loc), wj_Mo_findMethod_128 y Post a0 s_j128 x1j128 x3j128 x4j128 x5j128 x6j128 x8j128 → va_P D CL (ws g ad y s_j128) H → va_D A (ws g ad y s_j128) → va_S A s.heap H locs → ∀ ls, lv_has ls 10 [(0, .ref (ad a0)), (1, .int x1j128), (3, .int x3j128), (4, .int x4j128), (5, .int x5j128), (6, .int x6j128), (8, .int x8j128)] → W p l e ru_Mo_findMethod s m args below meth c H locs 0 0 Q (F0 m 128 ls []) := by
                intro s_j128 x1j128 x3j128 x4j128 x5j128 x6j128 x8j128 H locs h hP hD hS ls hl
                unfold wj_Mo_findMethod_128 at h
                refine lv_iload G.1 G.2.1 d_Mo_findMethod_128 (lv_at hl 6 rfl) ?_
                have J_161 : ∀ (s_j161 : St) (x1j161 : Int32) (x5j161 : Int32) (x8j161 : Int32) (H : Heap) (locs : List Loc), wj_Mo_findMethod_161 y Post a0 s_j161 x1j161 x5j161 x8j161 → va_P D CL (ws g ad y s_j161) H → va_D A (ws g ad y s_j161) → va_S A s.heap H locs → ∀ ls, lv_has ls 10 [(0, .ref (ad a0)), (1, .int x1j161), (5, .int x5j161), (8, .int x8j161)] → W p l e ru_Mo_findMethod s m args below meth c H locs 0 0 Q (F0 m 161 ls []) := by
                  intro s_j161 x1j161 x5j161 x8j161 H locs h hP hD hS ls hl
                  unfold wj_Mo_findMethod_161 at h
                  refine lv_iload G.1 G.2.1 d_Mo_findMethod_161 (lv_at hl 3 rfl) ?_
                  refine lv_if_ge (tgt := 175) G.1 G.2.1 d_Mo_findMethod_163 (by decide) (fun c163 => ?_) (fun c163 => ?_)
                  · skip
                    have h := h.1 c163
                    refine lv_aload_n G.1 G.2.1 d_Mo_findMethod_175 rfl (lv_at hl 0 rfl) ?_
                    obtain ⟨b_9, e_10, c_11, h⟩ := h
                    refine ugf (v := .ref (ad b_9)) G hP h_a0 iMo rfl 45 (by decide) rfl q3109 rfl (by show va_rf ((sO s_j161 a0 45).map ad) = _; rw [e_10]; rfl) d_Mo_findMethod_176 ?_
                    refine ugfN (v := .ref (yP y b_9 20)) G hP c_11 iMw rfl 20 (by decide) rfl q2744 rfl rfl d_Mo_findMethod_179 ?_
                    refine lv_iload G.1 G.2.1 d_Mo_findMethod_182 (lv_at hl 3 rfl) ?_
                    refine uiald G hP (kdp c_11 rfl) (typ c_11 rfl) h d_Mo_findMethod_184 (fun x_12 h => ?_)
                    refine lv_istore (lv' := [(9, .int x_12), (0, .ref (ad a0)), (1, .int x1j161), (5, .int x5j161), (8, .int x8j161)]) G.1 G.2.1 d_Mo_findMethod_185 hl (by decide) rfl (fun ls hl => ?_)
                    refine lv_aload_n G.1 G.2.1 d_Mo_findMethod_187 rfl (lv_at hl 1 rfl) ?_
                    refine lv_iconst (v := 5) G.1 G.2.1 d_Mo_findMethod_188 (by decide) ?_
                    refine ucVi (As := [.int 5]) (rest := []) G hP hD hS (cu_Mo_isOff l D g ad y _ s_j161 a0 5 H.size h_a0 h) w9_Mo_isOff q3579 ⟨Nat.le_of_ble_eq_true rfl, Nat.le_of_ble_eq_true rfl⟩ rfl rfl h_a0 (q := (RMo, TMo, 131)) rfl rfl hl.1 rfl (Nat.le_of_ble_eq_true rfl) rfl ⟨Nat.le_refl _, Nat.le_refl _⟩ d_Mo_findMethod_189 (fun r_13 s_14 H locs h hP hD hS => ?_)
                    have J_228 : ∀ (s_j228 : St) (x1j228 : Int32) (x8j228 : Int32) (x9j228 : Int32) (H : Heap) (locs : List Loc), wj_Mo_findMethod_228 y Post a0 s_j228 x1j228 x8j228 x9j228 → va_P D CL (ws g ad y s_j228) H → va_D A (ws g ad y s_j228) → va_S A s.heap H locs → ∀ ls, lv_has ls 10 [(0, .ref (ad a0)), (1, .int x1j228), (8, .int x8j228), (9, .int x9j228)] → W p l e ru_Mo_findMethod s m args below meth c H locs 0 0 Q (F0 m 228 ls []) := by
                      intro s_j228 x1j228 x8j228 x9j228 H locs h hP hD hS ls hl
                      unfold wj_Mo_findMethod_228 at h
                      refine lv_iload G.1 G.2.1 d_Mo_findMethod_228 (lv_at hl 3 rfl) ?_
                      refine lv_iconst (v := 1) G.1 G.2.1 d_Mo_findMethod_230 (by decide) ?_
                      refine lv_iand G.1 G.2.1 d_Mo_findMethod_231 ?_
                      have J_240 : ∀ (s_j240 : St) (x1j240 : Int32) (x8j240 : Int32) (x9j240 : Int32) (z0j240 : Int32) (H : Heap) (locs : List Loc), wj_Mo_findMethod_240 y Post a0 s_j240 x1j240 x8j240 x9j240 z0j240 → va_P D CL (ws g ad y s_j240) H → va_D A (ws g ad y s_j240) → va_S A s.heap H locs → ∀ ls, lv_has ls 10 [(0, .ref (ad a0)), (1, .int x1j240), (8, .int x8j240), (9, .int x9j240)] → W p l e ru_Mo_findMethod s m args below meth c H locs 0 0 Q (F0 m 240 ls [.int z0j240]) := by
                        intro s_j240 x1j240 x8j240 x9j240 z0j240 H locs h hP hD hS ls hl
                        unfold wj_Mo_findMethod_240 at h
                        refine lv_iload_n G.1 G.2.1 d_Mo_findMethod_240 rfl (lv_at hl 1 rfl) ?_
                        refine lv_bipush (v := 52) G.1 G.2.1 d_Mo_findMethod_241 (by decide) ?_
                        have J_251 : ∀ (s_j251 : St) (x1j251 : Int32) (x8j251 : Int32) (x9j251 : Int32) (z0j251 : Int32) (z1j251 : Int32) (H : Heap) (locs : List Loc), wj_Mo_findMethod_251 y Post a0 s_j251 x1j251 x8j251 x9j251 z0j251 z1j251 → va_P D CL (ws g ad y s_j251) H → va_D A (ws g ad y s_j251) → va_S A s.heap H locs → ∀ ls, lv_has ls 10 [(0, .ref (ad a0)), (1, .int x1j251), (8, .int x8j251), (9, .int x9j251)] → W p l e ru_Mo_findMethod s m args below meth c H locs 0 0 Q (F0 m 251 ls [.int z1j251, .int z0j251]) := by
                          intro s_j251 x1j251 x8j251 x9j251 z0j251 z1j251 H locs h hP hD hS ls hl
                          unfold wj_Mo_findMethod_251 at h
                          refine lv_icmp_eq (tgt := 263) G.1 G.2.1 d_Mo_findMethod_251 (by decide) (fun c251 => ?_) (fun c251 => ?_)
                          · skip
                            have h := h.1 c251
                            refine lv_iload_n G.1 G.2.1 d_Mo_findMethod_263 rfl (lv_at hl 1 rfl) ?_
                            refine lv_bipush (v := 52) G.1 G.2.1 d_Mo_findMethod_264 (by decide) ?_
                            have J_299 : ∀ (s_j299 : St) (x8j299 : Int32) (H : Heap) (locs : List Loc), wj_Mo_findMethod_299 y Post a0 s_j299 x8j299 → va_P D CL (ws g ad y s_j299) H → va_D A (ws g ad y s_j299) → va_S A s.heap H locs → ∀ ls, lv_has ls 10 [(8, .int x8j299)] → W p l e ru_Mo_findMethod s m args below meth c H locs 0 0 Q (F0 m 299 ls []) := by
                              intro s_j299 x8j299 H locs h hP hD hS ls hl
                              unfold wj_Mo_findMethod_299 at h
                              refine lv_iload G.1 G.2.1 d_Mo_findMethod_299 (lv_at hl 0 rfl) ?_
                              exact hret _ _ _ _ _ _ _ ls h hP hD hS (Nat.le_refl _) (Nat.le_refl _) d_Mo_findMethod_301
                            have J_282 : ∀ (s_j282 : St) (x8j282 : Int32) (x9j282 : Int32) (H : Heap) (locs : List Loc), wj_Mo_findMethod_282 y Post a0 s_j282 x8j282 x9j282 → va_P D CL (ws g ad y s_j282) H → va_D A (ws g ad y s_j282) → va_S A s.heap H locs → ∀ ls, lv_has ls 10 [(0, .ref (ad a0)), (8, .int x8j282), (9, .int x9j282)] → W p l e ru_Mo_findMethod s m args below meth c H locs 0 0 Q (F0 m 282 ls []) := by
                              intro s_j282 x8j282 x9j282 H locs h hP hD hS ls hl
                              unfold wj_Mo_findMethod_282 at h
                              refine lv_iload G.1 G.2.1 d_Mo_findMethod_282 (lv_at hl 2 rfl) ?_
                              refine lv_bipush (v := 8) G.1 G.2.1 d_Mo_findMethod_284 (by decide) ?_
                              refine lv_iand G.1 G.2.1 d_Mo_findMethod_286 ?_
                              refine lv_if_eq (tgt := 299) G.1 G.2.1 d_Mo_findMethod_287 (by decide) (fun c287 => ?_) (fun c287 => ?_)
                              · skip
                                have h := h.1 c287
                                exact J_299 s_j282 x8j282 H locs h hP hD hS ls (lv_sub hl [1] rfl)
                              · skip
                                have h := h.2 c287
                                refine lv_aload_n G.1 G.2.1 d_Mo_findMethod_290 rfl (lv_at hl 0 rfl) ?_
                                refine lv_bipush (v := 58) G.1 G.2.1 d_Mo_findMethod_291 (by decide) ?_
                                refine lv_bipush (v := 18) G.1 G.2.1 d_Mo_findMethod_293 (by decide) ?_
                                refine ucVi (As := [.int 58, .int 18]) (rest := []) G hP hD hS (cu_Mo_fails l D g ad y _ s_j282 a0 58 18 H.size h_a0 h) w9_Mo_fails q3859 ⟨Nat.le_of_ble_eq_true rfl, Nat.le_of_ble_eq_true rfl⟩ rfl rfl h_a0 (q := (RMo, TMo, 131)) rfl rfl hl.1 rfl (Nat.le_of_ble_eq_true rfl) rfl ⟨Nat.le_refl _, Nat.le_refl _⟩ d_Mo_findMethod_295 (fun r_15 s_16 H locs h hP hD hS => ?_)
                                exact hret _ _ _ _ _ _ _ ls h hP hD hS (Nat.le_refl _) (Nat.le_refl _) d_Mo_findMethod_298
                            refine lv_icmp_eq (tgt := 282) G.1 G.2.1 d_Mo_findMethod_266 (by decide) (fun c266 => ?_) (fun c266 => ?_)
                            · skip
                              have h := h.1 c266
                              exact J_282 s_j251 x8j251 x9j251 H locs h hP hD hS ls (lv_sub hl [0, 2, 3] rfl)
                            · skip
                              have h := h.2 c266
                              refine lv_iload_n G.1 G.2.1 d_Mo_findMethod_269 rfl (lv_at hl 1 rfl) ?_
                              refine lv_bipush (v := 51) G.1 G.2.1 d_Mo_findMethod_270 (by decide) ?_
                              refine lv_icmp_eq (tgt := 282) G.1 G.2.1 d_Mo_findMethod_272 (by decide) (fun c272 => ?_) (fun c272 => ?_)
                              · skip
                                have h := h.1 c272
                                exact J_282 s_j251 x8j251 x9j251 H locs h hP hD hS ls (lv_sub hl [0, 2, 3] rfl)
                              · skip
                                have h := h.2 c272
                                refine lv_iload G.1 G.2.1 d_Mo_findMethod_275 (lv_at hl 3 rfl) ?_
                                refine lv_iconst (v := 4) G.1 G.2.1 d_Mo_findMethod_277 (by decide) ?_
                                refine lv_iand G.1 G.2.1 d_Mo_findMethod_278 ?_
                                refine lv_if_eq (tgt := 299) G.1 G.2.1 d_Mo_findMethod_279 (by decide) (fun c279 => ?_) (fun c279 => ?_)
                                · skip
                                  have h := h.1 c279
                                  exact J_299 s_j251 x8j251 H locs h hP hD hS ls (lv_sub hl [2] rfl)
                                · skip
                                  have h := h.2 c279
                                  exact J_282 s_j251 x8j251 x9j251 H locs h hP hD hS ls (lv_sub hl [0, 2, 3] rfl)
                          · skip
                            have h := h.2 c251
                            refine lv_aload_n G.1 G.2.1 d_Mo_findMethod_254 rfl (lv_at hl 0 rfl) ?_
                            refine lv_bipush (v := 55) G.1 G.2.1 d_Mo_findMethod_255 (by decide) ?_
                            refine lv_bipush (v := 15) G.1 G.2.1 d_Mo_findMethod_257 (by decide) ?_
                            refine ucVi (As := [.int 55, .int 15]) (rest := []) G hP hD hS (cu_Mo_fails l D g ad y _ s_j251 a0 55 15 H.size h_a0 h) w9_Mo_fails q3859 ⟨Nat.le_of_ble_eq_true rfl, Nat.le_of_ble_eq_true rfl⟩ rfl rfl h_a0 (q := (RMo, TMo, 131)) rfl rfl hl.1 rfl (Nat.le_of_ble_eq_true rfl) rfl ⟨Nat.le_refl _, Nat.le_refl _⟩ d_Mo_findMethod_259 (fun r_17 s_18 H locs h hP hD hS => ?_)
                            exact hret _ _ _ _ _ _ _ ls h hP hD hS (Nat.le_refl _) (Nat.le_refl _) d_Mo_findMethod_262
                        refine lv_icmp_ne (tgt := 250) G.1 G.2.1 d_Mo_findMethod_243 (by decide) (fun c243 => ?_) (fun c243 => ?_)
                        · skip
                          have h := h.1 c243
                          refine lv_iconst (v := 0) G.1 G.2.1 d_Mo_findMethod_250 (by decide) ?_
                          exact J_251 s_j240 x1j240 x8j240 x9j240 z0j240 0 H locs h hP hD hS ls (lv_sub hl [0, 1, 2, 3] rfl)
                        · skip
                          have h := h.2 c243
                          refine lv_iconst (v := 1) G.1 G.2.1 d_Mo_findMethod_246 (by decide) ?_
                          refine lv_goto (tgt := 251) G.1 G.2.1 d_Mo_findMethod_247 (by decide) ?_
                          exact J_251 s_j240 x1j240 x8j240 x9j240 z0j240 1 H locs h hP hD hS ls (lv_sub hl [0, 1, 2, 3] rfl)
                      refine lv_if_eq (tgt := 239) G.1 G.2.1 d_Mo_findMethod_232 (by decide) (fun c232 => ?_) (fun c232 => ?_)
                      · skip
                        have h := h.1 c232
                        refine lv_iconst (v := 0) G.1 G.2.1 d_Mo_findMethod_239 (by decide) ?_
                        exact J_240 s_j228 x1j228 x8j228 x9j228 0 H locs h hP hD hS ls (lv_sub hl [0, 1, 2, 3] rfl)
                      · skip
                        have h := h.2 c232
                        refine lv_iconst (v := 1) G.1 G.2.1 d_Mo_findMethod_235 (by decide) ?_
                        refine lv_goto (tgt := 240) G.1 G.2.1 d_Mo_findMethod_236 (by decide) ?_
                        exact J_240 s_j228 x1j228 x8j228 x9j228 1 H locs h hP hD hS ls (lv_sub hl [0, 1, 2, 3] rfl)
                    refine W.eq (g2 := F0 m 192 ls [.int r_13]) rfl ?_
                    refine lv_if_ne (tgt := 228) G.1 G.2.1 d_Mo_findMethod_192 (by decide) (fun c192 => ?_) (fun c192 => ?_)
                    · skip
                      have h := h.1 c192
                      exact J_228 s_14 x1j161 x8j161 x_12 H locs h hP hD hS ls (lv_sub hl [1, 2, 4, 0] rfl)
                    · skip
                      have h := h.2 c192
                      refine lv_iload G.1 G.2.1 d_Mo_findMethod_195 (lv_at hl 0 rfl) ?_
                      refine lv_iconst (v := 4) G.1 G.2.1 d_Mo_findMethod_197 (by decide) ?_
                      refine lv_iand G.1 G.2.1 d_Mo_findMethod_198 ?_
                      refine lv_if_eq (tgt := 228) G.1 G.2.1 d_Mo_findMethod_199 (by decide) (fun c199 => ?_) (fun c199 => ?_)
                      · skip
                        have h := h.1 c199
                        exact J_228 s_14 x1j161 x8j161 x_12 H locs h hP hD hS ls (lv_sub hl [1, 2, 4, 0] rfl)
                      · skip
                        have h := h.2 c199
                        refine lv_iload G.1 G.2.1 d_Mo_findMethod_202 (lv_at hl 3 rfl) ?_
                        refine lv_bipush (v := (-3)) G.1 G.2.1 d_Mo_findMethod_204 (by decide) ?_
                        refine lv_icmp_eq (tgt := 228) G.1 G.2.1 d_Mo_findMethod_206 (by decide) (fun c206 => ?_) (fun c206 => ?_)
                        · skip
                          have h := h.1 c206
                          exact J_228 s_14 x1j161 x8j161 x_12 H locs h hP hD hS ls (lv_sub hl [1, 2, 4, 0] rfl)
                        · skip
                          have h := h.2 c206
                          refine lv_iload G.1 G.2.1 d_Mo_findMethod_209 (lv_at hl 4 rfl) ?_
                          refine lv_bipush (v := 12) G.1 G.2.1 d_Mo_findMethod_211 (by decide) ?_
                          refine lv_idiv G.1 G.2.1 d_Mo_findMethod_213 (by decide) ?_
                          refine lv_iload G.1 G.2.1 d_Mo_findMethod_214 (lv_at hl 3 rfl) ?_
                          refine W.eq (g2 := F0 m 216 ls [.int x5j161, .int (x8j161 / 12)]) rfl ?_
                          refine lv_icmp_eq (tgt := 228) G.1 G.2.1 d_Mo_findMethod_216 (by decide) (fun c216 => ?_) (fun c216 => ?_)
                          · skip
                            have h := h.1 c216
                            exact J_228 s_14 x1j161 x8j161 x_12 H locs h hP hD hS ls (lv_sub hl [1, 2, 4, 0] rfl)
                          · skip
                            have h := h.2 c216
                            refine lv_aload_n G.1 G.2.1 d_Mo_findMethod_219 rfl (lv_at hl 1 rfl) ?_
                            refine lv_bipush (v := 53) G.1 G.2.1 d_Mo_findMethod_220 (by decide) ?_
                            refine lv_bipush (v := 14) G.1 G.2.1 d_Mo_findMethod_222 (by decide) ?_
                            refine ucVi (As := [.int 53, .int 14]) (rest := []) G hP hD hS (cu_Mo_fails l D g ad y _ s_14 a0 53 14 H.size h_a0 h) w9_Mo_fails q3859 ⟨Nat.le_of_ble_eq_true rfl, Nat.le_of_ble_eq_true rfl⟩ rfl rfl h_a0 (q := (RMo, TMo, 131)) rfl rfl hl.1 rfl (Nat.le_of_ble_eq_true rfl) rfl ⟨Nat.le_refl _, Nat.le_refl _⟩ d_Mo_findMethod_224 (fun r_19 s_20 H locs h hP hD hS => ?_)
                            exact hret _ _ _ _ _ _ _ ls h hP hD hS (Nat.le_refl _) (Nat.le_refl _) d_Mo_findMethod_227
                  · skip
                    have h := h.2 c163
                    refine lv_aload_n G.1 G.2.1 d_Mo_findMethod_166 rfl (lv_at hl 0 rfl) ?_
                    refine lv_bipush (v := 52) G.1 G.2.1 d_Mo_findMethod_167 (by decide) ?_
                    refine lv_bipush (v := 13) G.1 G.2.1 d_Mo_findMethod_169 (by decide) ?_
                    refine ucVi (As := [.int 52, .int 13]) (rest := []) G hP hD hS (cu_Mo_fails l D g ad y _ s_j161 a0 52 13 H.size h_a0 h) w9_Mo_fails q3859 ⟨Nat.le_of_ble_eq_true rfl, Nat.le_of_ble_eq_true rfl⟩ rfl rfl h_a0 (q := (RMo, TMo, 131)) rfl rfl hl.1 rfl (Nat.le_of_ble_eq_true rfl) rfl ⟨Nat.le_refl _, Nat.le_refl _⟩ d_Mo_findMethod_171 (fun r_21 s_22 H locs h hP hD hS => ?_)
                    exact hret _ _ _ _ _ _ _ ls h hP hD hS (Nat.le_refl _) (Nat.le_refl _) d_Mo_findMethod_174
                refine lv_if_ge (tgt := 161) G.1 G.2.1 d_Mo_findMethod_130 (by decide) (fun c130 => ?_) (fun c130 => ?_)
                · skip
                  have h := h.1 c130
                  exact J_161 s_j128 x1j128 x5j128 x8j128 H locs h hP hD hS ls (lv_sub hl [0, 1, 4, 6] rfl)
                · skip
                  have h := h.2 c130
                  refine lv_iload_n G.1 G.2.1 d_Mo_findMethod_133 rfl (lv_at hl 2 rfl) ?_
                  refine lv_aload_n G.1 G.2.1 d_Mo_findMethod_134 rfl (lv_at hl 0 rfl) ?_
                  refine ugf (v := .int (sV s_j128 a0 6)) G hP h_a0 iMo rfl 6 (by decide) rfl q3070 rfl rfl d_Mo_findMethod_135 ?_
                  refine lv_icmp_eq (tgt := 161) G.1 G.2.1 d_Mo_findMethod_138 (by decide) (fun c138 => ?_) (fun c138 => ?_)
                  · skip
                    have h := h.1 c138
                    exact J_161 s_j128 x1j128 x5j128 x8j128 H locs h hP hD hS ls (lv_sub hl [0, 1, 4, 6] rfl)
                  · skip
                    have h := h.2 c138
                    refine lv_iload_n G.1 G.2.1 d_Mo_findMethod_141 rfl (lv_at hl 2 rfl) ?_
                    refine lv_aload_n G.1 G.2.1 d_Mo_findMethod_142 rfl (lv_at hl 0 rfl) ?_
                    refine ugf (v := .int (sV s_j128 a0 7)) G hP h_a0 iMo rfl 7 (by decide) rfl q3071 rfl rfl d_Mo_findMethod_143 ?_
                    refine lv_icmp_eq (tgt := 161) G.1 G.2.1 d_Mo_findMethod_146 (by decide) (fun c146 => ?_) (fun c146 => ?_)
                    · skip
                      have h := h.1 c146
                      exact J_161 s_j128 x1j128 x5j128 x8j128 H locs h hP hD hS ls (lv_sub hl [0, 1, 4, 6] rfl)
                    · skip
                      have h := h.2 c146
                      refine lv_aload_n G.1 G.2.1 d_Mo_findMethod_149 rfl (lv_at hl 0 rfl) ?_
                      refine W.eq (g2 := F0 m 150 ls [.ref (ad a0)]) rfl ?_
                      refine lv_iload G.1 G.2.1 d_Mo_findMethod_150 (lv_at hl 5 rfl) ?_
                      refine lv_iload_n G.1 G.2.1 d_Mo_findMethod_152 rfl (lv_at hl 2 rfl) ?_
                      refine lv_iload G.1 G.2.1 d_Mo_findMethod_153 (lv_at hl 3 rfl) ?_
                      refine lv_iconst (v := 0) G.1 G.2.1 d_Mo_findMethod_155 (by decide) ?_
                      refine ucVi (As := [.int x6j128, .int x3j128, .int x4j128, .int 0]) (rest := []) G hP hD hS (cu_Mo_inFaces l D g ad y _ s_j128 a0 x6j128 x3j128 x4j128 0 H.size h_a0 h) w9_Mo_inFaces q3863 ⟨Nat.le_of_ble_eq_true rfl, Nat.le_of_ble_eq_true rfl⟩ rfl rfl h_a0 (q := (RMo, TMo, 131)) rfl rfl hl.1 rfl (Nat.le_of_ble_eq_true rfl) rfl ⟨Nat.le_refl _, Nat.le_refl _⟩ d_Mo_findMethod_156 (fun r_23 s_24 H locs h hP hD hS => ?_)
                      refine lv_istore (lv' := [(8, .int r_23), (0, .ref (ad a0)), (1, .int x1j128), (3, .int x3j128), (4, .int x4j128), (5, .int x5j128), (6, .int x6j128)]) G.1 G.2.1 d_Mo_findMethod_159 hl (by decide) rfl (fun ls hl => ?_)
                      exact J_161 s_24 x1j128 x5j128 r_23 H locs h hP hD hS ls (lv_sub hl [1, 2, 5, 0] rfl)
              refine lv_if_lt (tgt := 128) G.1 G.2.1 d_Mo_findMethod_77 (by decide) (fun c77 => ?_) (fun c77 => ?_)
              · skip
                have h := h.1 c77
                exact J_128 s_h75 x1h75 x3h75 x4h75 x5h75 x6h75 x8h75 H locs h hP hD hS ls (lv_sub hl [0, 1, 2, 3, 4, 5, 6] rfl)
              · skip
                have h := h.2 c77
                refine lv_iload G.1 G.2.1 d_Mo_findMethod_80 (lv_at hl 6 rfl) ?_
                refine lv_if_ge (tgt := 128) G.1 G.2.1 d_Mo_findMethod_82 (by decide) (fun c82 => ?_) (fun c82 => ?_)
                · skip
                  have h := h.1 c82
                  exact J_128 s_h75 x1h75 x3h75 x4h75 x5h75 x6h75 x8h75 H locs h hP hD hS ls (lv_sub hl [0, 1, 2, 3, 4, 5, 6] rfl)
                · skip
                  have h := h.2 c82
                  refine lv_iload_n G.1 G.2.1 d_Mo_findMethod_85 rfl (lv_at hl 2 rfl) ?_
                  refine lv_aload_n G.1 G.2.1 d_Mo_findMethod_86 rfl (lv_at hl 0 rfl) ?_
                  refine ugf (v := .int (sV s_h75 a0 7)) G hP h_a0 iMo rfl 7 (by decide) rfl q3071 rfl rfl d_Mo_findMethod_87 ?_
                  refine lv_icmp_eq (tgt := 128) G.1 G.2.1 d_Mo_findMethod_90 (by decide) (fun c90 => ?_) (fun c90 => ?_)
                  · skip
                    have h := h.1 c90
                    exact J_128 s_h75 x1h75 x3h75 x4h75 x5h75 x6h75 x8h75 H locs h hP hD hS ls (lv_sub hl [0, 1, 2, 3, 4, 5, 6] rfl)
                  · skip
                    have h := h.2 c90
                    refine lv_aload_n G.1 G.2.1 d_Mo_findMethod_93 rfl (lv_at hl 0 rfl) ?_
                    refine lv_iload G.1 G.2.1 d_Mo_findMethod_94 (lv_at hl 7 rfl) ?_
                    refine lv_iload_n G.1 G.2.1 d_Mo_findMethod_96 rfl (lv_at hl 2 rfl) ?_
                    refine W.eq (g2 := F0 m 97 ls [.int x3h75, .int x9h75, .ref (ad a0)]) rfl ?_
                    refine lv_iload G.1 G.2.1 d_Mo_findMethod_97 (lv_at hl 3 rfl) ?_
                    refine ucVi (As := [.int x9h75, .int x3h75, .int x4h75]) (rest := []) G hP hD hS (cu_Mo_methodIn l D g ad y _ s_h75 a0 x9h75 x3h75 x4h75 H.size h_a0 h) w9_Mo_methodIn q3697 ⟨Nat.le_of_ble_eq_true rfl, Nat.le_of_ble_eq_true rfl⟩ rfl rfl h_a0 (q := (RMo, TMo, 131)) rfl rfl hl.1 rfl (Nat.le_of_ble_eq_true rfl) rfl ⟨Nat.le_refl _, Nat.le_refl _⟩ d_Mo_findMethod_99 (fun r_25 s_26 H locs h hP hD hS => ?_)
                    refine lv_istore (lv' := [(8, .int r_25), (0, .ref (ad a0)), (1, .int x1h75), (3, .int x3h75), (4, .int x4h75), (5, .int x5h75), (6, .int x6h75), (9, .int x9h75)]) G.1 G.2.1 d_Mo_findMethod_102 hl (by decide) rfl (fun ls hl => ?_)
                    refine lv_iload_n G.1 G.2.1 d_Mo_findMethod_104 rfl (lv_at hl 3 rfl) ?_
                    refine lv_aload_n G.1 G.2.1 d_Mo_findMethod_105 rfl (lv_at hl 1 rfl) ?_
                    refine ugf (v := .int (sV s_26 a0 6)) G hP h_a0 iMo rfl 6 (by decide) rfl q3070 rfl rfl d_Mo_findMethod_106 ?_
                    have J_123 : ∀ (s_j123 : St) (x1j123 : Int32) (x3j123 : Int32) (x4j123 : Int32) (x5j123 : Int32) (x6j123 : Int32) (x8j123 : Int32) (z0j123 : Int32) (H : Heap) (locs : List Loc), wj_Mo_findMethod_123 y Post K_75 a0 s_j123 x1j123 x3j123 x4j123 x5j123 x6j123 x8j123 z0j123 → va_P D CL (ws g ad y s_j123) H → va_D A (ws g ad y s_j123) → va_S A s.heap H locs → ∀ ls, lv_has ls 10 [(0, .ref (ad a0)), (1, .int x1j123), (3, .int x3j123), (4, .int x4j123), (5, .int x5j123), (6, .int x6j123), (8, .int x8j123)] → W p l e ru_Mo_findMethod s m args below meth c H locs 0 0 Q (F0 m 123 ls [.int z0j123]) := by
                      intro s_j123 x1j123 x3j123 x4j123 x5j123 x6j123 x8j123 z0j123 H locs h hP hD hS ls hl
                      unfold wj_Mo_findMethod_123 at h
                      refine lv_istore (lv' := [(9, .int z0j123), (0, .ref (ad a0)), (1, .int x1j123), (3, .int x3j123), (4, .int x4j123), (5, .int x5j123), (6, .int x6j123), (8, .int x8j123)]) G.1 G.2.1 d_Mo_findMethod_123 hl (by decide) rfl (fun ls hl => ?_)
                      refine lv_goto (tgt := 75) G.1 G.2.1 d_Mo_findMethod_125 (by decide) ?_
                      have h := hK_75 s_j123 x1j123 x3j123 x4j123 x5j123 x6j123 x8j123 z0j123 h
                      exact ih_75 s_j123 x1j123 x3j123 x4j123 x5j123 x6j123 x8j123 z0j123 (Nat.lt_of_lt_of_le h.2 (Nat.le_of_lt_succ hμ_75)) h.1 H locs hP hD hS ls (lv_sub hl [1, 2, 3, 4, 5, 6, 7, 0] rfl)
                    refine lv_icmp_ne (tgt := 117) G.1 G.2.1 d_Mo_findMethod_109 (by decide) (fun c109 => ?_) (fun c109 => ?_)
                    · skip
                      have h := h.1 c109
                      refine lv_aload_n G.1 G.2.1 d_Mo_findMethod_117 rfl (lv_at hl 1 rfl) ?_
                      refine lv_iload G.1 G.2.1 d_Mo_findMethod_118 (lv_at hl 7 rfl) ?_
                      refine ucVi (As := [.int x9h75]) (rest := []) G hP hD hS (cu_Mo_parentOf l D g ad y _ s_26 a0 x9h75 H.size h_a0 h) w9_Mo_parentOf q3689 ⟨Nat.le_of_ble_eq_true rfl, Nat.le_of_ble_eq_true rfl⟩ rfl rfl h_a0 (q := (RMo, TMo, 131)) rfl rfl hl.1 rfl (Nat.le_of_ble_eq_true rfl) rfl ⟨Nat.le_refl _, Nat.le_refl _⟩ d_Mo_findMethod_120 (fun r_27 s_28 H locs h hP hD hS => ?_)
                      exact J_123 s_28 x1h75 x3h75 x4h75 x5h75 x6h75 r_25 r_27 H locs h hP hD hS ls (lv_sub hl [1, 2, 3, 4, 5, 6, 0] rfl)
                    · skip
                      have h := h.2 c109
                      refine lv_bipush (v := (-2)) G.1 G.2.1 d_Mo_findMethod_112 (by decide) ?_
                      refine lv_goto (tgt := 123) G.1 G.2.1 d_Mo_findMethod_114 (by decide) ?_
                      exact J_123 s_26 x1h75 x3h75 x4h75 x5h75 x6h75 r_25 (-2) H locs h hP hD hS ls (lv_sub hl [1, 2, 3, 4, 5, 6, 0] rfl)
          exact L_75 _ s_j67 x1j67 x3j67 x4j67 x5j67 x6j67 (-2) x6j67 (Nat.lt_succ_self _) hI_75 H locs hP hD hS ls (lv_sub hl [2, 3, 4, 5, 6, 7, 1, 0] rfl)
        refine lv_icmp_ne (tgt := 67) G.1 G.2.1 d_Mo_findMethod_50 (by decide) (fun c50 => ?_) (fun c50 => ?_)
        · skip
          have h := h.1 c50
          exact J_67 s_j47 x1j47 x3j47 x4j47 x5j47 x6j47 H locs h hP hD hS ls (lv_sub hl [0, 1, 2, 3, 4, 5] rfl)
        · skip
          have h := h.2 c50
          refine lv_iload G.1 G.2.1 d_Mo_findMethod_53 (lv_at hl 6 rfl) ?_
          refine lv_if_ne (tgt := 67) G.1 G.2.1 d_Mo_findMethod_55 (by decide) (fun c55 => ?_) (fun c55 => ?_)
          · skip
            have h := h.1 c55
            exact J_67 s_j47 x1j47 x3j47 x4j47 x5j47 x6j47 H locs h hP hD hS ls (lv_sub hl [0, 1, 2, 3, 4, 5] rfl)
          · skip
            have h := h.2 c55
            exact J_58 s_j47 H locs h hP hD hS ls (lv_sub hl [0] rfl)
      refine lv_icmp_ne (tgt := 47) G.1 G.2.1 d_Mo_findMethod_39 (by decide) (fun c39 => ?_) (fun c39 => ?_)
      · skip
        have h := h.1 c39
        exact J_47 s_j34 x1j34 x3j34 x4j34 x5j34 x6j34 z0j34 H locs h hP hD hS ls (lv_sub hl [1, 2, 3, 4, 5, 6, 0] rfl)
      · skip
        have h := h.2 c39
        refine lv_iload G.1 G.2.1 d_Mo_findMethod_42 (lv_at hl 0 rfl) ?_
        refine lv_if_ne (tgt := 58) G.1 G.2.1 d_Mo_findMethod_44 (by decide) (fun c44 => ?_) (fun c44 => ?_)
        · skip
          have h := h.1 c44
          exact J_58 s_j34 H locs h hP hD hS ls (lv_sub hl [1] rfl)
        · skip
          have h := h.2 c44
          exact J_47 s_j34 x1j34 x3j34 x4j34 x5j34 x6j34 z0j34 H locs h hP hD hS ls (lv_sub hl [1, 2, 3, 4, 5, 6, 0] rfl)
    refine lv_if_eq (tgt := 33) G.1 G.2.1 d_Mo_findMethod_26 (by decide) (fun c26 => ?_) (fun c26 => ?_)
    · skip
      have h := h.1 c26
      refine lv_iconst (v := 0) G.1 G.2.1 d_Mo_findMethod_33 (by decide) ?_
      exact J_34 s_2 v1 v3 v4 v5 r_1 0 H locs h hP hD hS ls (lv_sub hl [1, 2, 4, 5, 6, 0] rfl)
    · skip
      have h := h.2 c26
      refine lv_iconst (v := 1) G.1 G.2.1 d_Mo_findMethod_29 (by decide) ?_
      refine lv_goto (tgt := 34) G.1 G.2.1 d_Mo_findMethod_30 (by decide) ?_
      exact J_34 s_2 v1 v3 v4 v5 r_1 1 H locs h hP hD hS ls (lv_sub hl [1, 2, 4, 5, 6, 0] rfl)
  · skip
    have h := h.2 c9
    refine lv_iconst (v := (-1)) G.1 G.2.1 d_Mo_findMethod_12 (by decide) ?_
    exact hret _ _ _ _ _ _ _ ls h hP hD hS (Nat.le_refl _) (Nat.le_refl _) d_Mo_findMethod_13
def y_Mo_startOf : MethodName := ⟨"ClassWorksModel", "startOf", "(I)I"⟩
abbrev b_Mo_startOf : ByteArray := prog_14_method_103_code
theorem d_Mo_startOf_0 : decode b_Mo_startOf 0 = .ok (.aload_n 0, 1) := by decide +kernel
theorem d_Mo_startOf_1 : decode b_Mo_startOf 1 = .ok (.getfield 522, 3) := by decide +kernel
theorem d_Mo_startOf_4 : decode b_Mo_startOf 4 = .ok (.getfield 441, 3) := by decide +kernel
theorem d_Mo_startOf_7 : decode b_Mo_startOf 7 = .ok (.iload_n 1, 1) := by decide +kernel
theorem d_Mo_startOf_8 : decode b_Mo_startOf 8 = .ok (.iaload, 1) := by decide +kernel
theorem d_Mo_startOf_9 : decode b_Mo_startOf 9 = .ok (.tableswitch 72 1 3 #[29, 27, 59], 27) := by decide +kernel
theorem d_Mo_startOf_36 : decode b_Mo_startOf 36 = .ok (.iconst 0, 1) := by decide +kernel
theorem d_Mo_startOf_37 : decode b_Mo_startOf 37 = .ok (.ireturn, 1) := by decide +kernel
theorem d_Mo_startOf_38 : decode b_Mo_startOf 38 = .ok (.aload_n 0, 1) := by decide +kernel
theorem d_Mo_startOf_39 : decode b_Mo_startOf 39 = .ok (.getfield 522, 3) := by decide +kernel
theorem d_Mo_startOf_42 : decode b_Mo_startOf 42 = .ok (.getfield 989, 3) := by decide +kernel
theorem d_Mo_startOf_45 : decode b_Mo_startOf 45 = .ok (.iload_n 1, 1) := by decide +kernel
theorem d_Mo_startOf_46 : decode b_Mo_startOf 46 = .ok (.iaload, 1) := by decide +kernel
theorem d_Mo_startOf_47 : decode b_Mo_startOf 47 = .ok (.aload_n 0, 1) := by decide +kernel
theorem d_Mo_startOf_48 : decode b_Mo_startOf 48 = .ok (.getfield 908, 3) := by decide +kernel
theorem d_Mo_startOf_51 : decode b_Mo_startOf 51 = .ok (.if_icmp .ne 5, 3) := by decide +kernel
theorem d_Mo_startOf_54 : decode b_Mo_startOf 54 = .ok (.iconst 0, 1) := by decide +kernel
theorem d_Mo_startOf_55 : decode b_Mo_startOf 55 = .ok (.ireturn, 1) := by decide +kernel
theorem d_Mo_startOf_56 : decode b_Mo_startOf 56 = .ok (.aload_n 0, 1) := by decide +kernel
theorem d_Mo_startOf_57 : decode b_Mo_startOf 57 = .ok (.getfield 917, 3) := by decide +kernel
theorem d_Mo_startOf_60 : decode b_Mo_startOf 60 = .ok (.iconst (-1), 1) := by decide +kernel
theorem d_Mo_startOf_61 : decode b_Mo_startOf 61 = .ok (.iload_n 1, 1) := by decide +kernel
theorem d_Mo_startOf_62 : decode b_Mo_startOf 62 = .ok (.isub, 1) := by decide +kernel
theorem d_Mo_startOf_63 : decode b_Mo_startOf 63 = .ok (.putfield 992, 3) := by decide +kernel
theorem d_Mo_startOf_66 : decode b_Mo_startOf 66 = .ok (.iconst 2, 1) := by decide +kernel
theorem d_Mo_startOf_67 : decode b_Mo_startOf 67 = .ok (.ireturn, 1) := by decide +kernel
theorem d_Mo_startOf_68 : decode b_Mo_startOf 68 = .ok (.aload_n 0, 1) := by decide +kernel
theorem d_Mo_startOf_69 : decode b_Mo_startOf 69 = .ok (.iconst 0, 1) := by decide +kernel
theorem d_Mo_startOf_70 : decode b_Mo_startOf 70 = .ok (.putfield 844, 3) := by decide +kernel
theorem d_Mo_startOf_73 : decode b_Mo_startOf 73 = .ok (.aload_n 0, 1) := by decide +kernel
theorem d_Mo_startOf_74 : decode b_Mo_startOf 74 = .ok (.bipush 11, 2) := by decide +kernel
theorem d_Mo_startOf_76 : decode b_Mo_startOf 76 = .ok (.putfield 847, 3) := by decide +kernel
theorem d_Mo_startOf_79 : decode b_Mo_startOf 79 = .ok (.iconst 3, 1) := by decide +kernel
theorem d_Mo_startOf_80 : decode b_Mo_startOf 80 = .ok (.ireturn, 1) := by decide +kernel
theorem d_Mo_startOf_81 : decode b_Mo_startOf 81 = .ok (.aload_n 0, 1) := by decide +kernel
theorem d_Mo_startOf_82 : decode b_Mo_startOf 82 = .ok (.iload_n 1, 1) := by decide +kernel
theorem d_Mo_startOf_83 : decode b_Mo_startOf 83 = .ok (.invokevirtual 749, 3) := by decide +kernel
theorem d_Mo_startOf_86 : decode b_Mo_startOf 86 = .ok (.ifCond .ne 37, 3) := by decide +kernel
theorem d_Mo_startOf_89 : decode b_Mo_startOf 89 = .ok (.aload_n 0, 1) := by decide +kernel
theorem d_Mo_startOf_90 : decode b_Mo_startOf 90 = .ok (.aload_n 0, 1) := by decide +kernel
theorem d_Mo_startOf_91 : decode b_Mo_startOf 91 = .ok (.getfield 522, 3) := by decide +kernel
theorem d_Mo_startOf_94 : decode b_Mo_startOf 94 = .ok (.getfield 444, 3) := by decide +kernel
theorem d_Mo_startOf_97 : decode b_Mo_startOf 97 = .ok (.iload_n 1, 1) := by decide +kernel
theorem d_Mo_startOf_98 : decode b_Mo_startOf 98 = .ok (.iaload, 1) := by decide +kernel
theorem d_Mo_startOf_99 : decode b_Mo_startOf 99 = .ok (.bipush 100, 2) := by decide +kernel
theorem d_Mo_startOf_101 : decode b_Mo_startOf 101 = .ok (.idiv, 1) := by decide +kernel
theorem d_Mo_startOf_102 : decode b_Mo_startOf 102 = .ok (.putfield 844, 3) := by decide +kernel
theorem d_Mo_startOf_105 : decode b_Mo_startOf 105 = .ok (.aload_n 0, 1) := by decide +kernel
theorem d_Mo_startOf_106 : decode b_Mo_startOf 106 = .ok (.aload_n 0, 1) := by decide +kernel
theorem d_Mo_startOf_107 : decode b_Mo_startOf 107 = .ok (.getfield 522, 3) := by decide +kernel
theorem d_Mo_startOf_110 : decode b_Mo_startOf 110 = .ok (.getfield 444, 3) := by decide +kernel
theorem d_Mo_startOf_113 : decode b_Mo_startOf 113 = .ok (.iload_n 1, 1) := by decide +kernel
theorem d_Mo_startOf_114 : decode b_Mo_startOf 114 = .ok (.iaload, 1) := by decide +kernel
theorem d_Mo_startOf_115 : decode b_Mo_startOf 115 = .ok (.bipush 100, 2) := by decide +kernel
theorem d_Mo_startOf_117 : decode b_Mo_startOf 117 = .ok (.irem, 1) := by decide +kernel
theorem d_Mo_startOf_118 : decode b_Mo_startOf 118 = .ok (.putfield 847, 3) := by decide +kernel
theorem d_Mo_startOf_121 : decode b_Mo_startOf 121 = .ok (.iconst 3, 1) := by decide +kernel
theorem d_Mo_startOf_122 : decode b_Mo_startOf 122 = .ok (.ireturn, 1) := by decide +kernel
theorem d_Mo_startOf_123 : decode b_Mo_startOf 123 = .ok (.aload_n 0, 1) := by decide +kernel
theorem d_Mo_startOf_124 : decode b_Mo_startOf 124 = .ok (.getfield 522, 3) := by decide +kernel
theorem d_Mo_startOf_127 : decode b_Mo_startOf 127 = .ok (.getfield 441, 3) := by decide +kernel
theorem d_Mo_startOf_130 : decode b_Mo_startOf 130 = .ok (.iload_n 1, 1) := by decide +kernel
theorem d_Mo_startOf_131 : decode b_Mo_startOf 131 = .ok (.iconst 1, 1) := by decide +kernel
theorem d_Mo_startOf_132 : decode b_Mo_startOf 132 = .ok (.iastore, 1) := by decide +kernel
theorem d_Mo_startOf_133 : decode b_Mo_startOf 133 = .ok (.aload_n 0, 1) := by decide +kernel
theorem d_Mo_startOf_134 : decode b_Mo_startOf 134 = .ok (.getfield 522, 3) := by decide +kernel
theorem d_Mo_startOf_137 : decode b_Mo_startOf 137 = .ok (.getfield 989, 3) := by decide +kernel
theorem d_Mo_startOf_140 : decode b_Mo_startOf 140 = .ok (.iload_n 1, 1) := by decide +kernel
theorem d_Mo_startOf_141 : decode b_Mo_startOf 141 = .ok (.aload_n 0, 1) := by decide +kernel
theorem d_Mo_startOf_142 : decode b_Mo_startOf 142 = .ok (.getfield 908, 3) := by decide +kernel
theorem d_Mo_startOf_145 : decode b_Mo_startOf 145 = .ok (.iastore, 1) := by decide +kernel
theorem d_Mo_startOf_146 : decode b_Mo_startOf 146 = .ok (.aload_n 0, 1) := by decide +kernel
theorem d_Mo_startOf_147 : decode b_Mo_startOf 147 = .ok (.getfield 522, 3) := by decide +kernel
theorem d_Mo_startOf_150 : decode b_Mo_startOf 150 = .ok (.getfield 995, 3) := by decide +kernel
theorem d_Mo_startOf_153 : decode b_Mo_startOf 153 = .ok (.aload_n 0, 1) := by decide +kernel
theorem d_Mo_startOf_154 : decode b_Mo_startOf 154 = .ok (.getfield 522, 3) := by decide +kernel
theorem d_Mo_startOf_157 : decode b_Mo_startOf 157 = .ok (.getfield 519, 3) := by decide +kernel
theorem d_Mo_startOf_160 : decode b_Mo_startOf 160 = .ok (.iload_n 1, 1) := by decide +kernel
theorem d_Mo_startOf_161 : decode b_Mo_startOf 161 = .ok (.iastore, 1) := by decide +kernel
theorem d_Mo_startOf_162 : decode b_Mo_startOf 162 = .ok (.aload_n 0, 1) := by decide +kernel
theorem d_Mo_startOf_163 : decode b_Mo_startOf 163 = .ok (.getfield 522, 3) := by decide +kernel
theorem d_Mo_startOf_166 : decode b_Mo_startOf 166 = .ok (.dup, 1) := by decide +kernel
theorem d_Mo_startOf_167 : decode b_Mo_startOf 167 = .ok (.getfield 519, 3) := by decide +kernel
theorem d_Mo_startOf_170 : decode b_Mo_startOf 170 = .ok (.iconst 1, 1) := by decide +kernel
theorem d_Mo_startOf_171 : decode b_Mo_startOf 171 = .ok (.iadd, 1) := by decide +kernel
theorem d_Mo_startOf_172 : decode b_Mo_startOf 172 = .ok (.putfield 519, 3) := by decide +kernel
theorem d_Mo_startOf_175 : decode b_Mo_startOf 175 = .ok (.bipush 8, 2) := by decide +kernel
theorem d_Mo_startOf_177 : decode b_Mo_startOf 177 = .ok (.iload_n 1, 1) := by decide +kernel
theorem d_Mo_startOf_178 : decode b_Mo_startOf 178 = .ok (.imul, 1) := by decide +kernel
theorem d_Mo_startOf_179 : decode b_Mo_startOf 179 = .ok (.istore_n 2, 1) := by decide +kernel
theorem d_Mo_startOf_180 : decode b_Mo_startOf 180 = .ok (.iload_n 2, 1) := by decide +kernel
theorem d_Mo_startOf_181 : decode b_Mo_startOf 181 = .ok (.bipush 8, 2) := by decide +kernel
theorem d_Mo_startOf_183 : decode b_Mo_startOf 183 = .ok (.iload_n 1, 1) := by decide +kernel
theorem d_Mo_startOf_184 : decode b_Mo_startOf 184 = .ok (.imul, 1) := by decide +kernel
theorem d_Mo_startOf_185 : decode b_Mo_startOf 185 = .ok (.aload_n 0, 1) := by decide +kernel
theorem d_Mo_startOf_186 : decode b_Mo_startOf 186 = .ok (.getfield 522, 3) := by decide +kernel
theorem d_Mo_startOf_189 : decode b_Mo_startOf 189 = .ok (.getfield 435, 3) := by decide +kernel
theorem d_Mo_startOf_192 : decode b_Mo_startOf 192 = .ok (.iload_n 1, 1) := by decide +kernel
theorem d_Mo_startOf_193 : decode b_Mo_startOf 193 = .ok (.iaload, 1) := by decide +kernel
theorem d_Mo_startOf_194 : decode b_Mo_startOf 194 = .ok (.iadd, 1) := by decide +kernel
theorem d_Mo_startOf_195 : decode b_Mo_startOf 195 = .ok (.if_icmp .ge 39, 3) := by decide +kernel
theorem d_Mo_startOf_198 : decode b_Mo_startOf 198 = .ok (.aload_n 0, 1) := by decide +kernel
theorem d_Mo_startOf_199 : decode b_Mo_startOf 199 = .ok (.getfield 522, 3) := by decide +kernel
theorem d_Mo_startOf_202 : decode b_Mo_startOf 202 = .ok (.getfield 633, 3) := by decide +kernel
theorem d_Mo_startOf_205 : decode b_Mo_startOf 205 = .ok (.iload_n 2, 1) := by decide +kernel
theorem d_Mo_startOf_206 : decode b_Mo_startOf 206 = .ok (.baload, 1) := by decide +kernel
theorem d_Mo_startOf_207 : decode b_Mo_startOf 207 = .ok (.ifCond .eq 21, 3) := by decide +kernel
theorem d_Mo_startOf_210 : decode b_Mo_startOf 210 = .ok (.aload_n 0, 1) := by decide +kernel
theorem d_Mo_startOf_211 : decode b_Mo_startOf 211 = .ok (.getfield 522, 3) := by decide +kernel
theorem d_Mo_startOf_214 : decode b_Mo_startOf 214 = .ok (.getfield 636, 3) := by decide +kernel
theorem d_Mo_startOf_217 : decode b_Mo_startOf 217 = .ok (.iload_n 2, 1) := by decide +kernel
theorem d_Mo_startOf_218 : decode b_Mo_startOf 218 = .ok (.aload_n 0, 1) := by decide +kernel
theorem d_Mo_startOf_219 : decode b_Mo_startOf 219 = .ok (.getfield 522, 3) := by decide +kernel
theorem d_Mo_startOf_222 : decode b_Mo_startOf 222 = .ok (.getfield 630, 3) := by decide +kernel
theorem d_Mo_startOf_225 : decode b_Mo_startOf 225 = .ok (.iload_n 2, 1) := by decide +kernel
theorem d_Mo_startOf_226 : decode b_Mo_startOf 226 = .ok (.iaload, 1) := by decide +kernel
theorem d_Mo_startOf_227 : decode b_Mo_startOf 227 = .ok (.iastore, 1) := by decide +kernel
theorem d_Mo_startOf_228 : decode b_Mo_startOf 228 = .ok (.iinc 2 1, 3) := by decide +kernel
theorem d_Mo_startOf_231 : decode b_Mo_startOf 231 = .ok (.goto (-51), 3) := by decide +kernel
theorem d_Mo_startOf_234 : decode b_Mo_startOf 234 = .ok (.aload_n 0, 1) := by decide +kernel
theorem d_Mo_startOf_235 : decode b_Mo_startOf 235 = .ok (.getfield 917, 3) := by decide +kernel
theorem d_Mo_startOf_238 : decode b_Mo_startOf 238 = .ok (.getfield 942, 3) := by decide +kernel
theorem d_Mo_startOf_241 : decode b_Mo_startOf 241 = .ok (.aload_n 0, 1) := by decide +kernel
theorem d_Mo_startOf_242 : decode b_Mo_startOf 242 = .ok (.getfield 917, 3) := by decide +kernel
theorem d_Mo_startOf_245 : decode b_Mo_startOf 245 = .ok (.getfield 945, 3) := by decide +kernel
theorem d_Mo_startOf_248 : decode b_Mo_startOf 248 = .ok (.iconst (-1), 1) := by decide +kernel
theorem d_Mo_startOf_249 : decode b_Mo_startOf 249 = .ok (.iload_n 1, 1) := by decide +kernel
theorem d_Mo_startOf_250 : decode b_Mo_startOf 250 = .ok (.isub, 1) := by decide +kernel
theorem d_Mo_startOf_251 : decode b_Mo_startOf 251 = .ok (.iastore, 1) := by decide +kernel
theorem d_Mo_startOf_252 : decode b_Mo_startOf 252 = .ok (.aload_n 0, 1) := by decide +kernel
theorem d_Mo_startOf_253 : decode b_Mo_startOf 253 = .ok (.getfield 917, 3) := by decide +kernel
theorem d_Mo_startOf_256 : decode b_Mo_startOf 256 = .ok (.getfield 948, 3) := by decide +kernel
theorem d_Mo_startOf_259 : decode b_Mo_startOf 259 = .ok (.aload_n 0, 1) := by decide +kernel
theorem d_Mo_startOf_260 : decode b_Mo_startOf 260 = .ok (.getfield 917, 3) := by decide +kernel
theorem d_Mo_startOf_263 : decode b_Mo_startOf 263 = .ok (.getfield 945, 3) := by decide +kernel
theorem d_Mo_startOf_266 : decode b_Mo_startOf 266 = .ok (.iconst 1, 1) := by decide +kernel
theorem d_Mo_startOf_267 : decode b_Mo_startOf 267 = .ok (.iastore, 1) := by decide +kernel
theorem d_Mo_startOf_268 : decode b_Mo_startOf 268 = .ok (.aload_n 0, 1) := by decide +kernel
theorem d_Mo_startOf_269 : decode b_Mo_startOf 269 = .ok (.getfield 917, 3) := by decide +kernel
theorem d_Mo_startOf_272 : decode b_Mo_startOf 272 = .ok (.dup, 1) := by decide +kernel
theorem d_Mo_startOf_273 : decode b_Mo_startOf 273 = .ok (.getfield 945, 3) := by decide +kernel
theorem d_Mo_startOf_276 : decode b_Mo_startOf 276 = .ok (.iconst 1, 1) := by decide +kernel
theorem d_Mo_startOf_277 : decode b_Mo_startOf 277 = .ok (.iadd, 1) := by decide +kernel
theorem d_Mo_startOf_278 : decode b_Mo_startOf 278 = .ok (.putfield 945, 3) := by decide +kernel
theorem d_Mo_startOf_281 : decode b_Mo_startOf 281 = .ok (.aload_n 0, 1) := by decide +kernel
theorem d_Mo_startOf_282 : decode b_Mo_startOf 282 = .ok (.iconst 4, 1) := by decide +kernel
theorem d_Mo_startOf_283 : decode b_Mo_startOf 283 = .ok (.iconst (-1), 1) := by decide +kernel
theorem d_Mo_startOf_284 : decode b_Mo_startOf 284 = .ok (.iload_n 1, 1) := by decide +kernel
theorem d_Mo_startOf_285 : decode b_Mo_startOf 285 = .ok (.isub, 1) := by decide +kernel
theorem d_Mo_startOf_286 : decode b_Mo_startOf 286 = .ok (.invokevirtual 951, 3) := by decide +kernel
theorem d_Mo_startOf_289 : decode b_Mo_startOf 289 = .ok (.iconst 1, 1) := by decide +kernel
theorem d_Mo_startOf_290 : decode b_Mo_startOf 290 = .ok (.ireturn, 1) := by decide +kernel
abbrev ru_Mo_startOf : Room := { frames := 469, cells := 0, slots := 0, locals := 11410 }
def wj_Mo_startOf_228 (y : Ly) (Post : St → Int32 → Prop) (K_180 : St → Int32 → Int32 → Prop) (a0 : Nat) (s_j228 : St) (x1j228 : Int32) (x2j228 : Int32) : Prop := K_180 s_j228 x1j228 (x2j228 + 1)
def wb_Mo_startOf_180 (y : Ly) (Post : St → Int32 → Prop) (K_180 : St → Int32 → Int32 → Prop) (a0 : Nat) (s_h180 : St) (x1h180 : Int32) (x2h180 : Int32) : Prop := ∃ b_30 : Nat, sO s_h180 a0 45 = some b_30 ∧ cl b_30 = 13 ∧ xA y s_h180 b_30 8 x1h180 (fun x_33 : Int32 => ((((8 * x1h180) + x_33) ≤ x2h180 → ∃ b_34 : Nat, sO s_h180 a0 46 = some b_34 ∧ cl b_34 = 12 ∧ xS y s_h180 b_34 14 (sV s_h180 b_34 16) ((-1) - x1h180) (fun s_37 : St => ∃ b_38 : Nat, sO s_37 a0 46 = some b_38 ∧ cl b_38 = 12 ∧ xS y s_37 b_38 15 (sV s_37 b_38 16) 1 (fun s_41 : St => ∃ b_42 : Nat, sO s_41 a0 46 = some b_42 ∧ cl b_42 = 12 ∧ xP (uV s_41 b_42 16 ((sV s_41 b_42 16) + 1)) (fun s_45 : St => wu_Mo_note y (fun (s_47 : St) => Post s_47 1) s_45 a0 4 ((-1) - x1h180))))) ∧ (¬ (((8 * x1h180) + x_33) ≤ x2h180) → xA y s_h180 b_30 16 x2h180 (fun x_48 : Int32 => ((x_48 = 0 → wj_Mo_startOf_228 y Post K_180 a0 s_h180 x1h180 x2h180) ∧ (¬ (x_48 = 0) → xA y s_h180 b_30 15 x2h180 (fun x_49 : Int32 => xS y s_h180 b_30 17 x2h180 x_49 (fun s_50 : St => wj_Mo_startOf_228 y Post K_180 a0 s_50 x1h180 x2h180))))))))
def wl_Mo_startOf_180 (y : Ly) (Post : St → Int32 → Prop) (a0 : Nat) (s_h180 : St) (x1h180 : Int32) (x2h180 : Int32) : Prop := ∃ (I : St → Int32 → Int32 → Prop) (μ : St → Int32 → Int32 → Nat), I s_h180 x1h180 x2h180 ∧ ∀ (u : St) (t0 : Int32) (t1 : Int32), I u t0 t1 → wb_Mo_startOf_180 y Post (fun z t0q t1q => I z t0q t1q ∧ μ z t0q t1q < μ u t0 t1) a0 u t0 t1
def wu_Mo_startOf (y : Ly) (Post : St → Int32 → Prop) (σ : St) (a0 : Nat) (v1 : Int32) : Prop := ∃ b_1 : Nat, sO σ a0 45 = some b_1 ∧ cl b_1 = 13 ∧ xA y σ b_1 10 v1 (fun x_4 : Int32 => ((x_4 = 1 → xA y σ b_1 61 v1 (fun x_5 : Int32 => ((¬ x_5 = (sV σ a0 47) → ∃ b_6 : Nat, sO σ a0 46 = some b_6 ∧ cl b_6 = 12 ∧ xP (uV σ b_6 2 ((-1) - v1)) (fun s_9 : St => Post s_9 2)) ∧ (x_5 = (sV σ a0 47) → Post σ 0)))) ∧ (¬ (x_4 = 1) → ((x_4 = 2 → Post σ 0) ∧ (¬ (x_4 = 2) → ((x_4 = 3 → xP (uV σ a0 81 0) (fun s_10 : St => xP (uV s_10 a0 80 11) (fun s_11 : St => Post s_11 3))) ∧ (¬ (x_4 = 3) → wu_Mo_isLinked y (fun (s_13 : St) (r_12 : Int32) => ((¬ r_12 = 0 → ∃ b_14 : Nat, sO s_13 a0 45 = some b_14 ∧ cl b_14 = 13 ∧ xS y s_13 b_14 10 v1 1 (fun s_17 : St => ∃ b_18 : Nat, sO s_17 a0 45 = some b_18 ∧ cl b_18 = 13 ∧ xS y s_17 b_18 61 v1 (sV s_17 a0 47) (fun s_21 : St => ∃ b_22 : Nat, sO s_21 a0 45 = some b_22 ∧ cl b_22 = 13 ∧ xS y s_21 b_22 59 (sV s_21 b_22 60) v1 (fun s_25 : St => ∃ b_26 : Nat, sO s_25 a0 45 = some b_26 ∧ cl b_26 = 13 ∧ xP (uV s_25 b_26 60 ((sV s_25 b_26 60) + 1)) (fun s_29 : St => wl_Mo_startOf_180 y Post a0 s_29 v1 (8 * v1)))))) ∧ (r_12 = 0 → ∃ b_51 : Nat, sO s_13 a0 45 = some b_51 ∧ cl b_51 = 13 ∧ xA y s_13 b_51 11 v1 (fun x_54 : Int32 => xP (uV s_13 a0 81 (x_54 / 100)) (fun s_55 : St => ∃ b_56 : Nat, sO s_55 a0 45 = some b_56 ∧ cl b_56 = 13 ∧ xA y s_55 b_56 11 v1 (fun x_59 : Int32 => xP (uV s_55 a0 80 (x_59 - x_59 / 100 * 100)) (fun s_60 : St => Post s_60 3))))))) σ a0 v1)))))))
set_option maxHeartbeats 4000000 in
set_option maxRecDepth 100000 in
theorem cu_Mo_startOf (l : Launch) (D : va_G) (g : Nat → ClassId) (ad : Nat → Nat) (y : Ly) (Post : St → Int32 → Prop) (σ : St) (a0 : Nat) (v1 : Int32) (sz : Nat) (h_a0 : cl a0 = 14) (h : wu_Mo_startOf y Post σ a0 v1) : Met l y_Mo_startOf (mw y_Mo_startOf b_Mo_startOf 3 (some .int)) ru_Mo_startOf (PC g D [] [.ref (ad a0), .int v1] sz (ws g ad y σ)) (va_Qi (fun (r : Int32) (u : St) => Post u r) (QW D (va_A (ws g ad y σ) sz) (fun u => ws g ad y u)) (va_A (ws g ad y σ) sz)) 0 0 (va_A (ws g ad y σ) sz) := by
  refine ofI (by decide +kernel) (Nat.le_of_ble_eq_true rfl) ?_
  intro p e s m args below meth c A Q ls H locs G hsz hP hD hS hl hret
  subst hsz
  have hl : lv_has ls 3 [(0, .ref (ad a0)), (1, .int v1)] := hl
  unfold wu_Mo_startOf at h
  refine lv_aload_n G.1 G.2.1 d_Mo_startOf_0 rfl (lv_at hl 0 rfl) ?_
  obtain ⟨b_1, e_2, c_3, h⟩ := h
  refine ugf (v := .ref (ad b_1)) G hP h_a0 iMo rfl 45 (by decide) rfl q3109 rfl (by show va_rf ((sO σ a0 45).map ad) = _; rw [e_2]; rfl) d_Mo_startOf_1 ?_
  refine ugfN (v := .ref (yP y b_1 10)) G hP c_3 iMw rfl 10 (by decide) rfl q2724 rfl rfl d_Mo_startOf_4 ?_
  refine lv_iload_n G.1 G.2.1 d_Mo_startOf_7 rfl (lv_at hl 1 rfl) ?_
  refine uiald G hP (kdp c_3 rfl) (typ c_3 rfl) h d_Mo_startOf_8 (fun x_4 h => ?_)
  by_cases e9_1 : x_4 = 1
  · skip
    have h := h.1 e9_1
    refine lv_tableIn (off := 29) (tgt := 38) G.1 G.2.1 d_Mo_startOf_9 (by rw [e9_1]; decide) (by rw [e9_1]; decide) (by rw [e9_1]; rfl) (by decide) ?_
    refine lv_aload_n G.1 G.2.1 d_Mo_startOf_38 rfl (lv_at hl 0 rfl) ?_
    refine ugf (v := .ref (ad b_1)) G hP h_a0 iMo rfl 45 (by decide) rfl q3109 rfl (by show va_rf ((sO σ a0 45).map ad) = _; rw [e_2]; rfl) d_Mo_startOf_39 ?_
    refine ugfN (v := .ref (yP y b_1 61)) G hP c_3 iMw rfl 61 (by decide) rfl q2818 rfl rfl d_Mo_startOf_42 ?_
    refine lv_iload_n G.1 G.2.1 d_Mo_startOf_45 rfl (lv_at hl 1 rfl) ?_
    refine uiald G hP (kdp c_3 rfl) (typ c_3 rfl) h d_Mo_startOf_46 (fun x_5 h => ?_)
    refine W.eq (g2 := F0 m 47 ls [.int x_5]) rfl ?_
    refine lv_aload_n G.1 G.2.1 d_Mo_startOf_47 rfl (lv_at hl 0 rfl) ?_
    refine ugf (v := .int (sV σ a0 47)) G hP h_a0 iMo rfl 47 (by decide) rfl q3111 rfl rfl d_Mo_startOf_48 ?_
    refine lv_icmp_ne (tgt := 56) G.1 G.2.1 d_Mo_startOf_51 (by decide) (fun c51 => ?_) (fun c51 => ?_)
    · skip
      have h := h.1 c51
      refine lv_aload_n G.1 G.2.1 d_Mo_startOf_56 rfl (lv_at hl 0 rfl) ?_
      obtain ⟨b_6, e_7, c_8, h⟩ := h
      refine ugf (v := .ref (ad b_6)) G hP h_a0 iMo rfl 46 (by decide) rfl q3110 rfl (by show va_rf ((sO σ a0 46).map ad) = _; rw [e_7]; rfl) d_Mo_startOf_57 ?_
      refine lv_iconst (v := (-1)) G.1 G.2.1 d_Mo_startOf_60 (by decide) ?_
      refine lv_iload_n G.1 G.2.1 d_Mo_startOf_61 rfl (lv_at hl 1 rfl) ?_
      refine lv_isub G.1 G.2.1 d_Mo_startOf_62 ?_
      refine upfN G hP hD hS h 2 putV c_8 iMr tMr tMr_ok nMr rfl (by decide) rfl q2989 rfl rfl fV rfl rfl d_Mo_startOf_63 (fun s_9 H locs h hP hD hS => ?_)
      refine lv_iconst (v := 2) G.1 G.2.1 d_Mo_startOf_66 (by decide) ?_
      exact hret _ _ _ _ _ _ _ ls h hP hD hS (Nat.le_refl _) (Nat.le_refl _) d_Mo_startOf_67
    · skip
      have h := h.2 c51
      refine lv_iconst (v := 0) G.1 G.2.1 d_Mo_startOf_54 (by decide) ?_
      exact hret _ _ _ _ _ _ _ ls h hP hD hS (Nat.le_refl _) (Nat.le_refl _) d_Mo_startOf_55
  replace h := h.2 e9_1
  by_cases e9_2 : x_4 = 2
  · skip
    have h := h.1 e9_2
    refine lv_tableIn (off := 27) (tgt := 36) G.1 G.2.1 d_Mo_startOf_9 (by rw [e9_2]; decide) (by rw [e9_2]; decide) (by rw [e9_2]; rfl) (by decide) ?_
    refine lv_iconst (v := 0) G.1 G.2.1 d_Mo_startOf_36 (by decide) ?_
    exact hret _ _ _ _ _ _ _ ls h hP hD hS (Nat.le_refl _) (Nat.le_refl _) d_Mo_startOf_37
  replace h := h.2 e9_2
  by_cases e9_3 : x_4 = 3
  · skip
    have h := h.1 e9_3
    refine lv_tableIn (off := 59) (tgt := 68) G.1 G.2.1 d_Mo_startOf_9 (by rw [e9_3]; decide) (by rw [e9_3]; decide) (by rw [e9_3]; rfl) (by decide) ?_
    refine lv_aload_n G.1 G.2.1 d_Mo_startOf_68 rfl (lv_at hl 0 rfl) ?_
    refine lv_iconst (v := 0) G.1 G.2.1 d_Mo_startOf_69 (by decide) ?_
    refine upf G hP hD hS h 81 putV h_a0 iMo tMo tMo_ok nMo rfl (by decide) rfl q3145 rfl rfl fV rfl rfl d_Mo_startOf_70 (fun s_10 H locs h hP hD hS => ?_)
    refine lv_aload_n G.1 G.2.1 d_Mo_startOf_73 rfl (lv_at hl 0 rfl) ?_
    refine lv_bipush (v := 11) G.1 G.2.1 d_Mo_startOf_74 (by decide) ?_
    refine W.eq (g2 := F0 m 76 ls [.int 11, .ref (ad a0)]) rfl ?_
    refine upf G hP hD hS h 80 putV h_a0 iMo tMo tMo_ok nMo rfl (by decide) rfl q3144 rfl rfl fV rfl rfl d_Mo_startOf_76 (fun s_11 H locs h hP hD hS => ?_)
    refine lv_iconst (v := 3) G.1 G.2.1 d_Mo_startOf_79 (by decide) ?_
    exact hret _ _ _ _ _ _ _ ls h hP hD hS (Nat.le_refl _) (Nat.le_refl _) d_Mo_startOf_80
  replace h := h.2 e9_3
  have te9_1 := lv_neT (a := 1) e9_1 (by decide)
  have te9_2 := lv_neT (a := 2) e9_2 (by decide)
  have te9_3 := lv_neT (a := 3) e9_3 (by decide)
  refine lv_tableOut (tgt := 81) G.1 G.2.1 d_Mo_startOf_9 (by omega) (by decide) ?_
  refine lv_aload_n G.1 G.2.1 d_Mo_startOf_81 rfl (lv_at hl 0 rfl) ?_
  refine lv_iload_n G.1 G.2.1 d_Mo_startOf_82 rfl (lv_at hl 1 rfl) ?_
  refine ucVi (As := [.int v1]) (rest := []) G hP hD hS (cu_Mo_isLinked l D g ad y _ σ a0 v1 H.size h_a0 h) w9_Mo_isLinked q3677 ⟨Nat.le_of_ble_eq_true rfl, Nat.le_of_ble_eq_true rfl⟩ rfl rfl h_a0 (q := (RMo, TMo, 131)) rfl rfl hl.1 rfl (Nat.le_of_ble_eq_true rfl) rfl ⟨Nat.le_refl _, Nat.le_refl _⟩ d_Mo_startOf_83 (fun r_12 s_13 H locs h hP hD hS => ?_)
  refine lv_if_ne (tgt := 123) G.1 G.2.1 d_Mo_startOf_86 (by decide) (fun c86 => ?_) (fun c86 => ?_)
  · skip
    have h := h.1 c86
    refine lv_aload_n G.1 G.2.1 d_Mo_startOf_123 rfl (lv_at hl 0 rfl) ?_
    refine W.eq (g2 := F0 m 124 ls [.ref (ad a0)]) rfl ?_
    obtain ⟨b_14, e_15, c_16, h⟩ := h
    refine ugf (v := .ref (ad b_14)) G hP h_a0 iMo rfl 45 (by decide) rfl q3109 rfl (by show va_rf ((sO s_13 a0 45).map ad) = _; rw [e_15]; rfl) d_Mo_startOf_124 ?_
    refine ugfN (v := .ref (yP y b_14 10)) G hP c_16 iMw rfl 10 (by decide) rfl q2724 rfl rfl d_Mo_startOf_127 ?_
    refine lv_iload_n G.1 G.2.1 d_Mo_startOf_130 rfl (lv_at hl 1 rfl) ?_
    refine lv_iconst (v := 1) G.1 G.2.1 d_Mo_startOf_131 (by decide) ?_
    refine uiast G hP hD hS (kdp c_16 rfl) (typ c_16 rfl) h d_Mo_startOf_132 (fun s_17 H locs h hP hD hS => ?_)
    refine lv_aload_n G.1 G.2.1 d_Mo_startOf_133 rfl (lv_at hl 0 rfl) ?_
    obtain ⟨b_18, e_19, c_20, h⟩ := h
    refine ugf (v := .ref (ad b_18)) G hP h_a0 iMo rfl 45 (by decide) rfl q3109 rfl (by show va_rf ((sO s_17 a0 45).map ad) = _; rw [e_19]; rfl) d_Mo_startOf_134 ?_
    refine ugfN (v := .ref (yP y b_18 61)) G hP c_20 iMw rfl 61 (by decide) rfl q2818 rfl rfl d_Mo_startOf_137 ?_
    refine lv_iload_n G.1 G.2.1 d_Mo_startOf_140 rfl (lv_at hl 1 rfl) ?_
    refine lv_aload_n G.1 G.2.1 d_Mo_startOf_141 rfl (lv_at hl 0 rfl) ?_
    refine ugf (v := .int (sV s_17 a0 47)) G hP h_a0 iMo rfl 47 (by decide) rfl q3111 rfl rfl d_Mo_startOf_142 ?_
    refine uiast G hP hD hS (kdp c_20 rfl) (typ c_20 rfl) h d_Mo_startOf_145 (fun s_21 H locs h hP hD hS => ?_)
    refine W.eq (g2 := F0 m 146 ls []) rfl ?_
    refine lv_aload_n G.1 G.2.1 d_Mo_startOf_146 rfl (lv_at hl 0 rfl) ?_
    obtain ⟨b_22, e_23, c_24, h⟩ := h
    refine ugf (v := .ref (ad b_22)) G hP h_a0 iMo rfl 45 (by decide) rfl q3109 rfl (by show va_rf ((sO s_21 a0 45).map ad) = _; rw [e_23]; rfl) d_Mo_startOf_147 ?_
    refine ugfN (v := .ref (yP y b_22 59)) G hP c_24 iMw rfl 59 (by decide) rfl q2815 rfl rfl d_Mo_startOf_150 ?_
    refine lv_aload_n G.1 G.2.1 d_Mo_startOf_153 rfl (lv_at hl 0 rfl) ?_
    refine ugf (v := .ref (ad b_22)) G hP h_a0 iMo rfl 45 (by decide) rfl q3109 rfl (by show va_rf ((sO s_21 a0 45).map ad) = _; rw [e_23]; rfl) d_Mo_startOf_154 ?_
    refine ugfN (v := .int (sV s_21 b_22 60)) G hP c_24 iMw rfl 60 (by decide) rfl q2816 rfl rfl d_Mo_startOf_157 ?_
    refine lv_iload_n G.1 G.2.1 d_Mo_startOf_160 rfl (lv_at hl 1 rfl) ?_
    refine uiast G hP hD hS (kdp c_24 rfl) (typ c_24 rfl) h d_Mo_startOf_161 (fun s_25 H locs h hP hD hS => ?_)
    refine lv_aload_n G.1 G.2.1 d_Mo_startOf_162 rfl (lv_at hl 0 rfl) ?_
    obtain ⟨b_26, e_27, c_28, h⟩ := h
    refine ugf (v := .ref (ad b_26)) G hP h_a0 iMo rfl 45 (by decide) rfl q3109 rfl (by show va_rf ((sO s_25 a0 45).map ad) = _; rw [e_27]; rfl) d_Mo_startOf_163 ?_
    refine lv_dup G.1 G.2.1 d_Mo_startOf_166 rfl ?_
    refine ugfN (v := .int (sV s_25 b_26 60)) G hP c_28 iMw rfl 60 (by decide) rfl q2816 rfl rfl d_Mo_startOf_167 ?_
    refine W.eq (g2 := F0 m 170 ls [.int (sV s_25 b_26 60), .ref (ad b_26)]) rfl ?_
    refine lv_iconst (v := 1) G.1 G.2.1 d_Mo_startOf_170 (by decide) ?_
    refine lv_iadd G.1 G.2.1 d_Mo_startOf_171 ?_
    refine upfN G hP hD hS h 60 putV c_28 iMw tMw tMw_ok nMw rfl (by decide) rfl q2816 rfl rfl fV rfl rfl d_Mo_startOf_172 (fun s_29 H locs h hP hD hS => ?_)
    refine lv_bipush (v := 8) G.1 G.2.1 d_Mo_startOf_175 (by decide) ?_
    refine lv_iload_n G.1 G.2.1 d_Mo_startOf_177 rfl (lv_at hl 1 rfl) ?_
    refine lv_imul G.1 G.2.1 d_Mo_startOf_178 ?_
    refine lv_istore_n (lv' := [(2, .int (8 * v1)), (0, .ref (ad a0)), (1, .int v1)]) G.1 G.2.1 d_Mo_startOf_179 rfl hl (by decide) rfl (fun ls hl => ?_)
    unfold wl_Mo_startOf_180 at h
    obtain ⟨I_180, μ_180, hI_180, hB_180⟩ := h
    have L_180 : ∀ (n_180 : Nat) (s_h180 : St) (x1h180 : Int32) (x2h180 : Int32), μ_180 s_h180 x1h180 x2h180 < n_180 → I_180 s_h180 x1h180 x2h180 → ∀ (H : Heap) (locs : List Loc), va_P D CL (ws g ad y s_h180) H → va_D A (ws g ad y s_h180) → va_S A s.heap H locs → ∀ ls, lv_has ls 3 [(0, .ref (ad a0)), (1, .int x1h180), (2, .int x2h180)] → W p l e ru_Mo_startOf s m args below meth c H locs 0 0 Q (F0 m 180 ls []) := by
      intro n_180
      induction n_180 with
      | zero => intro s_h180 x1h180 x2h180 hμ; exact absurd hμ (Nat.not_lt_zero _)
      | succ n_180 ih_180 =>
        intro s_h180 x1h180 x2h180 hμ_180 hJ H locs hP hD hS ls hl
        obtain ⟨K_180, hK_180, h⟩ : ∃ K : St → Int32 → Int32 → Prop, (∀ z (t0 : Int32) (t1 : Int32), K z t0 t1 → I_180 z t0 t1 ∧ μ_180 z t0 t1 < μ_180 s_h180 x1h180 x2h180) ∧ wb_Mo_startOf_180 y Post K a0 s_h180 x1h180 x2h180 := ⟨_, fun _ _ _ h => h, hB_180 s_h180 x1h180 x2h180 hJ⟩
        unfold wb_Mo_startOf_180 at h
        refine lv_iload_n G.1 G.2.1 d_Mo_startOf_180 rfl (lv_at hl 2 rfl) ?_
        refine lv_bipush (v := 8) G.1 G.2.1 d_Mo_startOf_181 (by decide) ?_
        refine lv_iload_n G.1 G.2.1 d_Mo_startOf_183 rfl (lv_at hl 1 rfl) ?_
        refine lv_imul G.1 G.2.1 d_Mo_startOf_184 ?_
        refine lv_aload_n G.1 G.2.1 d_Mo_startOf_185 rfl (lv_at hl 0 rfl) ?_
        obtain ⟨b_30, e_31, c_32, h⟩ := h
        refine ugf (v := .ref (ad b_30)) G hP h_a0 iMo rfl 45 (by decide) rfl q3109 rfl (by show va_rf ((sO s_h180 a0 45).map ad) = _; rw [e_31]; rfl) d_Mo_startOf_186 ?_
        refine ugfN (v := .ref (yP y b_30 8)) G hP c_32 iMw rfl 8 (by decide) rfl q2720 rfl rfl d_Mo_startOf_189 ?_
        refine lv_iload_n G.1 G.2.1 d_Mo_startOf_192 rfl (lv_at hl 1 rfl) ?_
        refine uiald G hP (kdp c_32 rfl) (typ c_32 rfl) h d_Mo_startOf_193 (fun x_33 h => ?_)
        refine lv_iadd G.1 G.2.1 d_Mo_startOf_194 ?_
        refine lv_icmp_ge (tgt := 234) G.1 G.2.1 d_Mo_startOf_195 (by decide) (fun c195 => ?_) (fun c195 => ?_)
        · skip
          have h := h.1 c195
          refine W.eq (g2 := F0 m 234 ls []) rfl ?_
          refine lv_aload_n G.1 G.2.1 d_Mo_startOf_234 rfl (lv_at hl 0 rfl) ?_
          obtain ⟨b_34, e_35, c_36, h⟩ := h
          refine ugf (v := .ref (ad b_34)) G hP h_a0 iMo rfl 46 (by decide) rfl q3110 rfl (by show va_rf ((sO s_h180 a0 46).map ad) = _; rw [e_35]; rfl) d_Mo_startOf_235 ?_
          refine ugfN (v := .ref (yP y b_34 14)) G hP c_36 iMr rfl 14 (by decide) rfl q3002 rfl rfl d_Mo_startOf_238 ?_
          refine lv_aload_n G.1 G.2.1 d_Mo_startOf_241 rfl (lv_at hl 0 rfl) ?_
          refine ugf (v := .ref (ad b_34)) G hP h_a0 iMo rfl 46 (by decide) rfl q3110 rfl (by show va_rf ((sO s_h180 a0 46).map ad) = _; rw [e_35]; rfl) d_Mo_startOf_242 ?_
          refine ugfN (v := .int (sV s_h180 b_34 16)) G hP c_36 iMr rfl 16 (by decide) rfl q3005 rfl rfl d_Mo_startOf_245 ?_
          refine lv_iconst (v := (-1)) G.1 G.2.1 d_Mo_startOf_248 (by decide) ?_
          refine lv_iload_n G.1 G.2.1 d_Mo_startOf_249 rfl (lv_at hl 1 rfl) ?_
          refine lv_isub G.1 G.2.1 d_Mo_startOf_250 ?_
          refine uiast G hP hD hS (kdp c_36 rfl) (typ c_36 rfl) h d_Mo_startOf_251 (fun s_37 H locs h hP hD hS => ?_)
          refine lv_aload_n G.1 G.2.1 d_Mo_startOf_252 rfl (lv_at hl 0 rfl) ?_
          obtain ⟨b_38, e_39, c_40, h⟩ := h
          refine ugf (v := .ref (ad b_38)) G hP h_a0 iMo rfl 46 (by decide) rfl q3110 rfl (by show va_rf ((sO s_37 a0 46).map ad) = _; rw [e_39]; rfl) d_Mo_startOf_253 ?_
          refine W.eq (g2 := F0 m 256 ls [.ref (ad b_38)]) rfl ?_
          refine ugfN (v := .ref (yP y b_38 15)) G hP c_40 iMr rfl 15 (by decide) rfl q3004 rfl rfl d_Mo_startOf_256 ?_
          refine lv_aload_n G.1 G.2.1 d_Mo_startOf_259 rfl (lv_at hl 0 rfl) ?_
          refine ugf (v := .ref (ad b_38)) G hP h_a0 iMo rfl 46 (by decide) rfl q3110 rfl (by show va_rf ((sO s_37 a0 46).map ad) = _; rw [e_39]; rfl) d_Mo_startOf_260 ?_
          refine ugfN (v := .int (sV s_37 b_38 16)) G hP c_40 iMr rfl 16 (by decide) rfl q3005 rfl rfl d_Mo_startOf_263 ?_
          refine lv_iconst (v := 1) G.1 G.2.1 d_Mo_startOf_266 (by decide) ?_
          refine uiast G hP hD hS (kdp c_40 rfl) (typ c_40 rfl) h d_Mo_startOf_267 (fun s_41 H locs h hP hD hS => ?_)
          refine lv_aload_n G.1 G.2.1 d_Mo_startOf_268 rfl (lv_at hl 0 rfl) ?_
          obtain ⟨b_42, e_43, c_44, h⟩ := h
          refine ugf (v := .ref (ad b_42)) G hP h_a0 iMo rfl 46 (by decide) rfl q3110 rfl (by show va_rf ((sO s_41 a0 46).map ad) = _; rw [e_43]; rfl) d_Mo_startOf_269 ?_
          refine lv_dup G.1 G.2.1 d_Mo_startOf_272 rfl ?_
          refine ugfN (v := .int (sV s_41 b_42 16)) G hP c_44 iMr rfl 16 (by decide) rfl q3005 rfl rfl d_Mo_startOf_273 ?_
          refine lv_iconst (v := 1) G.1 G.2.1 d_Mo_startOf_276 (by decide) ?_
          refine lv_iadd G.1 G.2.1 d_Mo_startOf_277 ?_
          refine W.eq (g2 := F0 m 278 ls [.int ((sV s_41 b_42 16) + 1), .ref (ad b_42)]) rfl ?_
          refine upfN G hP hD hS h 16 putV c_44 iMr tMr tMr_ok nMr rfl (by decide) rfl q3005 rfl rfl fV rfl rfl d_Mo_startOf_278 (fun s_45 H locs h hP hD hS => ?_)
          refine lv_aload_n G.1 G.2.1 d_Mo_startOf_281 rfl (lv_at hl 0 rfl) ?_
          refine lv_iconst (v := 4) G.1 G.2.1 d_Mo_startOf_282 (by decide) ?_
          refine lv_iconst (v := (-1)) G.1 G.2.1 d_Mo_startOf_283 (by decide) ?_
          refine lv_iload_n G.1 G.2.1 d_Mo_startOf_284 rfl (lv_at hl 1 rfl) ?_
          refine lv_isub G.1 G.2.1 d_Mo_startOf_285 ?_
          refine ucVv (As := [.int 4, .int ((-1) - x1h180)]) (rest := []) G hP hD hS (cu_Mo_note l D g ad y _ s_45 a0 4 ((-1) - x1h180) H.size h_a0 h) w9_Mo_note q3879 ⟨Nat.le_of_ble_eq_true rfl, Nat.le_of_ble_eq_true rfl⟩ rfl rfl h_a0 (q := (RMo, TMo, 131)) rfl rfl hl.1 rfl (Nat.le_of_ble_eq_true rfl) rfl ⟨Nat.le_refl _, Nat.le_refl _⟩ d_Mo_startOf_286 (fun s_47 H locs h hP hD hS => ?_)
          refine lv_iconst (v := 1) G.1 G.2.1 d_Mo_startOf_289 (by decide) ?_
          exact hret _ _ _ _ _ _ _ ls h hP hD hS (Nat.le_refl _) (Nat.le_refl _) d_Mo_startOf_290
        · skip
          have h := h.2 c195
          refine W.eq (g2 := F0 m 198 ls []) rfl ?_
          refine lv_aload_n G.1 G.2.1 d_Mo_startOf_198 rfl (lv_at hl 0 rfl) ?_
          refine ugf (v := .ref (ad b_30)) G hP h_a0 iMo rfl 45 (by decide) rfl q3109 rfl (by show va_rf ((sO s_h180 a0 45).map ad) = _; rw [e_31]; rfl) d_Mo_startOf_199 ?_
          refine ugfN (v := .ref (yP y b_30 16)) G hP c_32 iMw rfl 16 (by decide) rfl q2736 rfl rfl d_Mo_startOf_202 ?_
          refine lv_iload_n G.1 G.2.1 d_Mo_startOf_205 rfl (lv_at hl 2 rfl) ?_
          refine uzald G hP (kdp c_32 rfl) (typ c_32 rfl) h d_Mo_startOf_206 (fun x_48 h => ?_)
          have J_228 : ∀ (s_j228 : St) (x1j228 : Int32) (x2j228 : Int32) (H : Heap) (locs : List Loc), wj_Mo_startOf_228 y Post K_180 a0 s_j228 x1j228 x2j228 → va_P D CL (ws g ad y s_j228) H → va_D A (ws g ad y s_j228) → va_S A s.heap H locs → ∀ ls, lv_has ls 3 [(0, .ref (ad a0)), (1, .int x1j228), (2, .int x2j228)] → W p l e ru_Mo_startOf s m args below meth c H locs 0 0 Q (F0 m 228 ls []) := by
            intro s_j228 x1j228 x2j228 H locs h hP hD hS ls hl
            unfold wj_Mo_startOf_228 at h
            refine lv_iinc (v := x2j228 + 1) (lv' := [(2, .int (x2j228 + 1)), (0, .ref (ad a0)), (1, .int x1j228)]) G.1 G.2.1 d_Mo_startOf_228 hl (k := 2) rfl rfl (by decide) rfl (fun ls hl => ?_)
            refine lv_goto (tgt := 180) G.1 G.2.1 d_Mo_startOf_231 (by decide) ?_
            have h := hK_180 s_j228 x1j228 (x2j228 + 1) h
            exact ih_180 s_j228 x1j228 (x2j228 + 1) (Nat.lt_of_lt_of_le h.2 (Nat.le_of_lt_succ hμ_180)) h.1 H locs hP hD hS ls (lv_sub hl [1, 2, 0] rfl)
          refine lv_if_eq (tgt := 228) G.1 G.2.1 d_Mo_startOf_207 (by decide) (fun c207 => ?_) (fun c207 => ?_)
          · skip
            have h := h.1 c207
            exact J_228 s_h180 x1h180 x2h180 H locs h hP hD hS ls (lv_sub hl [0, 1, 2] rfl)
          · skip
            have h := h.2 c207
            refine lv_aload_n G.1 G.2.1 d_Mo_startOf_210 rfl (lv_at hl 0 rfl) ?_
            refine ugf (v := .ref (ad b_30)) G hP h_a0 iMo rfl 45 (by decide) rfl q3109 rfl (by show va_rf ((sO s_h180 a0 45).map ad) = _; rw [e_31]; rfl) d_Mo_startOf_211 ?_
            refine ugfN (v := .ref (yP y b_30 17)) G hP c_32 iMw rfl 17 (by decide) rfl q2738 rfl rfl d_Mo_startOf_214 ?_
            refine lv_iload_n G.1 G.2.1 d_Mo_startOf_217 rfl (lv_at hl 2 rfl) ?_
            refine lv_aload_n G.1 G.2.1 d_Mo_startOf_218 rfl (lv_at hl 0 rfl) ?_
            refine ugf (v := .ref (ad b_30)) G hP h_a0 iMo rfl 45 (by decide) rfl q3109 rfl (by show va_rf ((sO s_h180 a0 45).map ad) = _; rw [e_31]; rfl) d_Mo_startOf_219 ?_
            refine W.eq (g2 := F0 m 222 ls [.ref (ad b_30), .int x2h180, .ref (yP y b_30 17)]) rfl ?_
            refine ugfN (v := .ref (yP y b_30 15)) G hP c_32 iMw rfl 15 (by decide) rfl q2734 rfl rfl d_Mo_startOf_222 ?_
            refine lv_iload_n G.1 G.2.1 d_Mo_startOf_225 rfl (lv_at hl 2 rfl) ?_
            refine uiald G hP (kdp c_32 rfl) (typ c_32 rfl) h d_Mo_startOf_226 (fun x_49 h => ?_)
            refine uiast G hP hD hS (kdp c_32 rfl) (typ c_32 rfl) h d_Mo_startOf_227 (fun s_50 H locs h hP hD hS => ?_)
            exact J_228 s_50 x1h180 x2h180 H locs h hP hD hS ls (lv_sub hl [0, 1, 2] rfl)
    exact L_180 _ s_29 v1 (8 * v1) (Nat.lt_succ_self _) hI_180 H locs hP hD hS ls (lv_sub hl [1, 2, 0] rfl)
  · skip
    have h := h.2 c86
    refine lv_aload_n G.1 G.2.1 d_Mo_startOf_89 rfl (lv_at hl 0 rfl) ?_
    refine W.eq (g2 := F0 m 90 ls [.ref (ad a0)]) rfl ?_
    refine lv_aload_n G.1 G.2.1 d_Mo_startOf_90 rfl (lv_at hl 0 rfl) ?_
    obtain ⟨b_51, e_52, c_53, h⟩ := h
    refine ugf (v := .ref (ad b_51)) G hP h_a0 iMo rfl 45 (by decide) rfl q3109 rfl (by show va_rf ((sO s_13 a0 45).map ad) = _; rw [e_52]; rfl) d_Mo_startOf_91 ?_
    refine ugfN (v := .ref (yP y b_51 11)) G hP c_53 iMw rfl 11 (by decide) rfl q2726 rfl rfl d_Mo_startOf_94 ?_
    refine lv_iload_n G.1 G.2.1 d_Mo_startOf_97 rfl (lv_at hl 1 rfl) ?_
    refine uiald G hP (kdp c_53 rfl) (typ c_53 rfl) h d_Mo_startOf_98 (fun x_54 h => ?_)
    refine lv_bipush (v := 100) G.1 G.2.1 d_Mo_startOf_99 (by decide) ?_
    refine lv_idiv G.1 G.2.1 d_Mo_startOf_101 (by decide) ?_
    refine upf G hP hD hS h 81 putV h_a0 iMo tMo tMo_ok nMo rfl (by decide) rfl q3145 rfl rfl fV rfl rfl d_Mo_startOf_102 (fun s_55 H locs h hP hD hS => ?_)
    refine lv_aload_n G.1 G.2.1 d_Mo_startOf_105 rfl (lv_at hl 0 rfl) ?_
    refine lv_aload_n G.1 G.2.1 d_Mo_startOf_106 rfl (lv_at hl 0 rfl) ?_
    obtain ⟨b_56, e_57, c_58, h⟩ := h
    refine ugf (v := .ref (ad b_56)) G hP h_a0 iMo rfl 45 (by decide) rfl q3109 rfl (by show va_rf ((sO s_55 a0 45).map ad) = _; rw [e_57]; rfl) d_Mo_startOf_107 ?_
    refine ugfN (v := .ref (yP y b_56 11)) G hP c_58 iMw rfl 11 (by decide) rfl q2726 rfl rfl d_Mo_startOf_110 ?_
    refine W.eq (g2 := F0 m 113 ls [.ref (yP y b_56 11), .ref (ad a0)]) rfl ?_
    refine lv_iload_n G.1 G.2.1 d_Mo_startOf_113 rfl (lv_at hl 1 rfl) ?_
    refine uiald G hP (kdp c_58 rfl) (typ c_58 rfl) h d_Mo_startOf_114 (fun x_59 h => ?_)
    refine lv_bipush (v := 100) G.1 G.2.1 d_Mo_startOf_115 (by decide) ?_
    refine lv_irem G.1 G.2.1 d_Mo_startOf_117 (by decide) ?_
    refine upf G hP hD hS h 80 putV h_a0 iMo tMo tMo_ok nMo rfl (by decide) rfl q3144 rfl rfl fV rfl rfl d_Mo_startOf_118 (fun s_60 H locs h hP hD hS => ?_)
    refine lv_iconst (v := 3) G.1 G.2.1 d_Mo_startOf_121 (by decide) ?_
    exact hret _ _ _ _ _ _ _ ls h hP hD hS (Nat.le_refl _) (Nat.le_refl _) d_Mo_startOf_122
def y_Mo_newFault : MethodName := ⟨"ClassWorksModel", "newFault", "(II)I"⟩
abbrev b_Mo_newFault : ByteArray := prog_14_method_88_code
theorem q2806 : Cond.fieldLinkNest "ClassWorksModel" 875 "ClassWorksModel$World" "faultRules" "[I" "ClassWorksModel" ∈ lw_nest := lw_nestmem (List.mem_of_getElem? (i := 2806) (by decide +kernel)) rfl
theorem d_Mo_newFault_0 : decode b_Mo_newFault 0 = .ok (.aload_n 0, 1) := by decide +kernel
theorem d_Mo_newFault_1 : decode b_Mo_newFault 1 = .ok (.getfield 522, 3) := by decide +kernel
theorem d_Mo_newFault_4 : decode b_Mo_newFault 4 = .ok (.getfield 516, 3) := by decide +kernel
theorem d_Mo_newFault_7 : decode b_Mo_newFault 7 = .ok (.istore_n 3, 1) := by decide +kernel
theorem d_Mo_newFault_8 : decode b_Mo_newFault 8 = .ok (.aload_n 0, 1) := by decide +kernel
theorem d_Mo_newFault_9 : decode b_Mo_newFault 9 = .ok (.getfield 522, 3) := by decide +kernel
theorem d_Mo_newFault_12 : decode b_Mo_newFault 12 = .ok (.aload_n 0, 1) := by decide +kernel
theorem d_Mo_newFault_13 : decode b_Mo_newFault 13 = .ok (.getfield 522, 3) := by decide +kernel
theorem d_Mo_newFault_16 : decode b_Mo_newFault 16 = .ok (.getfield 869, 3) := by decide +kernel
theorem d_Mo_newFault_19 : decode b_Mo_newFault 19 = .ok (.iload_n 3, 1) := by decide +kernel
theorem d_Mo_newFault_20 : decode b_Mo_newFault 20 = .ok (.iconst 1, 1) := by decide +kernel
theorem d_Mo_newFault_21 : decode b_Mo_newFault 21 = .ok (.iadd, 1) := by decide +kernel
theorem d_Mo_newFault_22 : decode b_Mo_newFault 22 = .ok (.invokestatic 43, 3) := by decide +kernel
theorem d_Mo_newFault_25 : decode b_Mo_newFault 25 = .ok (.putfield 869, 3) := by decide +kernel
theorem d_Mo_newFault_28 : decode b_Mo_newFault 28 = .ok (.aload_n 0, 1) := by decide +kernel
theorem d_Mo_newFault_29 : decode b_Mo_newFault 29 = .ok (.getfield 522, 3) := by decide +kernel
theorem d_Mo_newFault_32 : decode b_Mo_newFault 32 = .ok (.aload_n 0, 1) := by decide +kernel
theorem d_Mo_newFault_33 : decode b_Mo_newFault 33 = .ok (.getfield 522, 3) := by decide +kernel
theorem d_Mo_newFault_36 : decode b_Mo_newFault 36 = .ok (.getfield 875, 3) := by decide +kernel
theorem d_Mo_newFault_39 : decode b_Mo_newFault 39 = .ok (.iload_n 3, 1) := by decide +kernel
theorem d_Mo_newFault_40 : decode b_Mo_newFault 40 = .ok (.iconst 1, 1) := by decide +kernel
theorem d_Mo_newFault_41 : decode b_Mo_newFault 41 = .ok (.iadd, 1) := by decide +kernel
theorem d_Mo_newFault_42 : decode b_Mo_newFault 42 = .ok (.invokestatic 43, 3) := by decide +kernel
theorem d_Mo_newFault_45 : decode b_Mo_newFault 45 = .ok (.putfield 875, 3) := by decide +kernel
theorem d_Mo_newFault_48 : decode b_Mo_newFault 48 = .ok (.aload_n 0, 1) := by decide +kernel
theorem d_Mo_newFault_49 : decode b_Mo_newFault 49 = .ok (.getfield 522, 3) := by decide +kernel
theorem d_Mo_newFault_52 : decode b_Mo_newFault 52 = .ok (.aload_n 0, 1) := by decide +kernel
theorem d_Mo_newFault_53 : decode b_Mo_newFault 53 = .ok (.getfield 522, 3) := by decide +kernel
theorem d_Mo_newFault_56 : decode b_Mo_newFault 56 = .ok (.getfield 878, 3) := by decide +kernel
theorem d_Mo_newFault_59 : decode b_Mo_newFault 59 = .ok (.iload_n 3, 1) := by decide +kernel
theorem d_Mo_newFault_60 : decode b_Mo_newFault 60 = .ok (.iconst 1, 1) := by decide +kernel
theorem d_Mo_newFault_61 : decode b_Mo_newFault 61 = .ok (.iadd, 1) := by decide +kernel
theorem d_Mo_newFault_62 : decode b_Mo_newFault 62 = .ok (.invokestatic 43, 3) := by decide +kernel
theorem d_Mo_newFault_65 : decode b_Mo_newFault 65 = .ok (.putfield 878, 3) := by decide +kernel
theorem d_Mo_newFault_68 : decode b_Mo_newFault 68 = .ok (.aload_n 0, 1) := by decide +kernel
theorem d_Mo_newFault_69 : decode b_Mo_newFault 69 = .ok (.getfield 522, 3) := by decide +kernel
theorem d_Mo_newFault_72 : decode b_Mo_newFault 72 = .ok (.getfield 869, 3) := by decide +kernel
theorem d_Mo_newFault_75 : decode b_Mo_newFault 75 = .ok (.iload_n 3, 1) := by decide +kernel
theorem d_Mo_newFault_76 : decode b_Mo_newFault 76 = .ok (.iload_n 1, 1) := by decide +kernel
theorem d_Mo_newFault_77 : decode b_Mo_newFault 77 = .ok (.iastore, 1) := by decide +kernel
theorem d_Mo_newFault_78 : decode b_Mo_newFault 78 = .ok (.aload_n 0, 1) := by decide +kernel
theorem d_Mo_newFault_79 : decode b_Mo_newFault 79 = .ok (.getfield 522, 3) := by decide +kernel
theorem d_Mo_newFault_82 : decode b_Mo_newFault 82 = .ok (.getfield 875, 3) := by decide +kernel
theorem d_Mo_newFault_85 : decode b_Mo_newFault 85 = .ok (.iload_n 3, 1) := by decide +kernel
theorem d_Mo_newFault_86 : decode b_Mo_newFault 86 = .ok (.iload_n 2, 1) := by decide +kernel
theorem d_Mo_newFault_87 : decode b_Mo_newFault 87 = .ok (.iastore, 1) := by decide +kernel
theorem d_Mo_newFault_88 : decode b_Mo_newFault 88 = .ok (.aload_n 0, 1) := by decide +kernel
theorem d_Mo_newFault_89 : decode b_Mo_newFault 89 = .ok (.getfield 522, 3) := by decide +kernel
theorem d_Mo_newFault_92 : decode b_Mo_newFault 92 = .ok (.getfield 878, 3) := by decide +kernel
theorem d_Mo_newFault_95 : decode b_Mo_newFault 95 = .ok (.iload_n 3, 1) := by decide +kernel
theorem d_Mo_newFault_96 : decode b_Mo_newFault 96 = .ok (.iconst 0, 1) := by decide +kernel
theorem d_Mo_newFault_97 : decode b_Mo_newFault 97 = .ok (.iastore, 1) := by decide +kernel
theorem d_Mo_newFault_98 : decode b_Mo_newFault 98 = .ok (.aload_n 0, 1) := by decide +kernel
theorem d_Mo_newFault_99 : decode b_Mo_newFault 99 = .ok (.getfield 522, 3) := by decide +kernel
theorem d_Mo_newFault_102 : decode b_Mo_newFault 102 = .ok (.aload_n 0, 1) := by decide +kernel
theorem d_Mo_newFault_103 : decode b_Mo_newFault 103 = .ok (.getfield 522, 3) := by decide +kernel
theorem d_Mo_newFault_106 : decode b_Mo_newFault 106 = .ok (.getfield 881, 3) := by decide +kernel
theorem d_Mo_newFault_109 : decode b_Mo_newFault 109 = .ok (.iload_n 3, 1) := by decide +kernel
theorem d_Mo_newFault_110 : decode b_Mo_newFault 110 = .ok (.iconst 1, 1) := by decide +kernel
theorem d_Mo_newFault_111 : decode b_Mo_newFault 111 = .ok (.iadd, 1) := by decide +kernel
theorem d_Mo_newFault_112 : decode b_Mo_newFault 112 = .ok (.invokestatic 43, 3) := by decide +kernel
theorem d_Mo_newFault_115 : decode b_Mo_newFault 115 = .ok (.putfield 881, 3) := by decide +kernel
theorem d_Mo_newFault_118 : decode b_Mo_newFault 118 = .ok (.aload_n 0, 1) := by decide +kernel
theorem d_Mo_newFault_119 : decode b_Mo_newFault 119 = .ok (.getfield 522, 3) := by decide +kernel
theorem d_Mo_newFault_122 : decode b_Mo_newFault 122 = .ok (.dup, 1) := by decide +kernel
theorem d_Mo_newFault_123 : decode b_Mo_newFault 123 = .ok (.getfield 516, 3) := by decide +kernel
theorem d_Mo_newFault_126 : decode b_Mo_newFault 126 = .ok (.iconst 1, 1) := by decide +kernel
theorem d_Mo_newFault_127 : decode b_Mo_newFault 127 = .ok (.iadd, 1) := by decide +kernel
theorem d_Mo_newFault_128 : decode b_Mo_newFault 128 = .ok (.putfield 516, 3) := by decide +kernel
theorem d_Mo_newFault_131 : decode b_Mo_newFault 131 = .ok (.sipush 1001, 3) := by decide +kernel
theorem d_Mo_newFault_134 : decode b_Mo_newFault 134 = .ok (.iload_n 3, 1) := by decide +kernel
theorem d_Mo_newFault_135 : decode b_Mo_newFault 135 = .ok (.iadd, 1) := by decide +kernel
theorem d_Mo_newFault_136 : decode b_Mo_newFault 136 = .ok (.ireturn, 1) := by decide +kernel
abbrev ra_Mo_newFault (mc ms : Nat) : Room := { frames := 2, cells := mc, slots := ms, locals := 150 }
def wa_Mo_newFault (mc ms : Nat) (y : Ly) (Post : Ly → St → Int32 → Nat → Nat → Prop) (σ : St) (a0 : Nat) (v1 : Int32) (v2 : Int32) : Prop := ∃ b_1 : Nat, sO σ a0 45 = some b_1 ∧ cl b_1 = 13 ∧ xR mc ms 0 0 .int y σ b_1 53 ((sV σ b_1 56) + 1) (fun (y_4 : Ly) (s_5 : St) (d_6 e_7 : Nat) => (d_6 ≤ mc ∧ e_7 ≤ ms) ∧ ∃ b_8 : Nat, sO s_5 a0 45 = some b_8 ∧ cl b_8 = 13 ∧ xR mc ms d_6 e_7 .int y_4 s_5 b_8 54 ((sV σ b_1 56) + 1) (fun (y_11 : Ly) (s_12 : St) (d_13 e_14 : Nat) => (d_13 ≤ mc ∧ e_14 ≤ ms) ∧ ∃ b_15 : Nat, sO s_12 a0 45 = some b_15 ∧ cl b_15 = 13 ∧ xR mc ms d_13 e_14 .int y_11 s_12 b_15 55 ((sV σ b_1 56) + 1) (fun (y_18 : Ly) (s_19 : St) (d_20 e_21 : Nat) => (d_20 ≤ mc ∧ e_21 ≤ ms) ∧ ∃ b_22 : Nat, sO s_19 a0 45 = some b_22 ∧ cl b_22 = 13 ∧ xS y_18 s_19 b_22 53 (sV σ b_1 56) v1 (fun s_25 : St => ∃ b_26 : Nat, sO s_25 a0 45 = some b_26 ∧ cl b_26 = 13 ∧ xS y_18 s_25 b_26 54 (sV σ b_1 56) v2 (fun s_29 : St => ∃ b_30 : Nat, sO s_29 a0 45 = some b_30 ∧ cl b_30 = 13 ∧ xS y_18 s_29 b_30 55 (sV σ b_1 56) 0 (fun s_33 : St => ∃ b_34 : Nat, sO s_33 a0 45 = some b_34 ∧ cl b_34 = 13 ∧ xR mc ms d_20 e_21 .int y_18 s_33 b_34 58 ((sV σ b_1 56) + 1) (fun (y_37 : Ly) (s_38 : St) (d_39 e_40 : Nat) => (d_39 ≤ mc ∧ e_40 ≤ ms) ∧ ∃ b_41 : Nat, sO s_38 a0 45 = some b_41 ∧ cl b_41 = 13 ∧ xP (uV s_38 b_41 56 ((sV s_38 b_41 56) + 1)) (fun s_44 : St => Post y_37 s_44 (1001 + (sV σ b_1 56)) d_39 e_40))))))))
set_option maxHeartbeats 4000000 in
set_option maxRecDepth 100000 in
theorem ca_Mo_newFault (l : Launch) (D : va_G) (g : Nat → ClassId) (ad : Nat → Nat) (mc ms : Nat) (y : Ly) (Post : Ly → St → Int32 → Nat → Nat → Prop) (σ : St) (a0 : Nat) (v1 : Int32) (v2 : Int32) (sz uz : Nat) (h_a0 : cl a0 = 14) (h : wa_Mo_newFault mc ms y Post σ a0 v1 v2) : Met l y_Mo_newFault (mw y_Mo_newFault b_Mo_newFault 4 (some .int)) (ra_Mo_newFault mc ms) (PCu g D [] [.ref (ad a0), .int v1, .int v2] sz uz (ws g ad y σ)) (va_Qi (fun (r : Int32) (u : Ly × St × Nat × Nat) => Post u.1 u.2.1 r u.2.2.1 u.2.2.2) (QU D (va_A (ws g ad y σ) sz) (fun u => ws g ad u.1 u.2.1) sz uz (fun u => u.2.2.1) (fun u => u.2.2.2)) (va_A (ws g ad y σ) sz)) mc ms (va_A (ws g ad y σ) sz) := by
  refine ofIu (by decide +kernel) (Nat.le_of_ble_eq_true rfl) ?_
  intro p e s m args below meth c A Q ls H locs G hsz hP hD hS hl hret
  subst hsz
  have hl : lv_has ls 4 [(0, .ref (ad a0)), (1, .int v1), (2, .int v2)] := hl
  have hd : 0 ≤ mc ∧ 0 ≤ ms := ⟨Nat.zero_le _, Nat.zero_le _⟩
  unfold wa_Mo_newFault at h
  refine lv_aload_n G.1 G.2.1 d_Mo_newFault_0 rfl (lv_at hl 0 rfl) ?_
  obtain ⟨b_1, e_2, c_3, h⟩ := h
  refine ugf (v := .ref (ad b_1)) G hP h_a0 iMo rfl 45 (by decide) rfl q3109 rfl (by show va_rf ((sO σ a0 45).map ad) = _; rw [e_2]; rfl) d_Mo_newFault_1 ?_
  refine ugfN (v := .int (sV σ b_1 56)) G hP c_3 iMw rfl 56 (by decide) rfl q2809 rfl rfl d_Mo_newFault_4 ?_
  refine lv_istore_n (lv' := [(3, .int (sV σ b_1 56)), (0, .ref (ad a0)), (1, .int v1), (2, .int v2)]) G.1 G.2.1 d_Mo_newFault_7 rfl hl (by decide) rfl (fun ls hl => ?_)
  refine lv_aload_n G.1 G.2.1 d_Mo_newFault_8 rfl (lv_at hl 1 rfl) ?_
  refine ugf (v := .ref (ad b_1)) G hP h_a0 iMo rfl 45 (by decide) rfl q3109 rfl (by show va_rf ((sO σ a0 45).map ad) = _; rw [e_2]; rfl) d_Mo_newFault_9 ?_
  refine lv_aload_n G.1 G.2.1 d_Mo_newFault_12 rfl (lv_at hl 1 rfl) ?_
  refine ugf (v := .ref (ad b_1)) G hP h_a0 iMo rfl 45 (by decide) rfl q3109 rfl (by show va_rf ((sO σ a0 45).map ad) = _; rw [e_2]; rfl) d_Mo_newFault_13 ?_
  refine ugfN (v := .ref (yP y b_1 53)) G hP c_3 iMw rfl 53 (by decide) rfl q2804 rfl rfl d_Mo_newFault_16 ?_
  refine lv_iload_n G.1 G.2.1 d_Mo_newFault_19 rfl (lv_at hl 0 rfl) ?_
  refine lv_iconst (v := 1) G.1 G.2.1 d_Mo_newFault_20 (by decide) ?_
  refine W.eq (g2 := F0 m 21 ls [.int 1, .int (sV σ b_1 56), .ref (yP y b_1 53), .ref (ad b_1)]) rfl ?_
  refine lv_iadd G.1 G.2.1 d_Mo_newFault_21 ?_
  refine uroomN (C := RMw) (T := TMw) (N := 72) G hP hD hS (fun ws0 q1 q t n f sz he ht hn => c_Mo_room_k l D g ws0 q1 q t n f sz he ht hn) (fun ws0 q1 q t n f sz he hn ht hf => c_Mo_room_g l D g ws0 q1 q t n f sz he hn ht hf) w9_Mo_room q2596 ⟨Nat.le_of_ble_eq_true rfl, Nat.le_of_ble_eq_true rfl⟩ (Nat.le_refl _) (Nat.le_refl _) hd (by decide) c_3 rfl rfl iMw tMw tMw_ok nMw rfl (by decide) q2804 rfl rfl (fun _ => rfl) (fun _ => rfl) hl.1 (Nat.le_of_ble_eq_true rfl) h d_Mo_newFault_22 d_Mo_newFault_25 (fun y_4 s_5 d_6 e_7 H locs h hP hD hS => ?_)
  obtain ⟨hd, h⟩ := h
  refine lv_aload_n G.1 G.2.1 d_Mo_newFault_28 rfl (lv_at hl 1 rfl) ?_
  obtain ⟨b_8, e_9, c_10, h⟩ := h
  refine ugf (v := .ref (ad b_8)) G hP h_a0 iMo rfl 45 (by decide) rfl q3109 rfl (by show va_rf ((sO s_5 a0 45).map ad) = _; rw [e_9]; rfl) d_Mo_newFault_29 ?_
  refine lv_aload_n G.1 G.2.1 d_Mo_newFault_32 rfl (lv_at hl 1 rfl) ?_
  refine ugf (v := .ref (ad b_8)) G hP h_a0 iMo rfl 45 (by decide) rfl q3109 rfl (by show va_rf ((sO s_5 a0 45).map ad) = _; rw [e_9]; rfl) d_Mo_newFault_33 ?_
  refine ugfN (v := .ref (yP y_4 b_8 54)) G hP c_10 iMw rfl 54 (by decide) rfl q2806 rfl rfl d_Mo_newFault_36 ?_
  refine lv_iload_n G.1 G.2.1 d_Mo_newFault_39 rfl (lv_at hl 0 rfl) ?_
  refine lv_iconst (v := 1) G.1 G.2.1 d_Mo_newFault_40 (by decide) ?_
  refine lv_iadd G.1 G.2.1 d_Mo_newFault_41 ?_
  refine uroomN (C := RMw) (T := TMw) (N := 72) G hP hD hS (fun ws0 q1 q t n f sz he ht hn => c_Mo_room_k l D g ws0 q1 q t n f sz he ht hn) (fun ws0 q1 q t n f sz he hn ht hf => c_Mo_room_g l D g ws0 q1 q t n f sz he hn ht hf) w9_Mo_room q2596 ⟨Nat.le_of_ble_eq_true rfl, Nat.le_of_ble_eq_true rfl⟩ (Nat.le_refl _) (Nat.le_refl _) hd (by decide) c_10 rfl rfl iMw tMw tMw_ok nMw rfl (by decide) q2806 rfl rfl (fun _ => rfl) (fun _ => rfl) hl.1 (Nat.le_of_ble_eq_true rfl) h d_Mo_newFault_42 d_Mo_newFault_45 (fun y_11 s_12 d_13 e_14 H locs h hP hD hS => ?_)
  obtain ⟨hd, h⟩ := h
  refine lv_aload_n G.1 G.2.1 d_Mo_newFault_48 rfl (lv_at hl 1 rfl) ?_
  refine W.eq (g2 := F0 m 49 ls [.ref (ad a0)]) rfl ?_
  obtain ⟨b_15, e_16, c_17, h⟩ := h
  refine ugf (v := .ref (ad b_15)) G hP h_a0 iMo rfl 45 (by decide) rfl q3109 rfl (by show va_rf ((sO s_12 a0 45).map ad) = _; rw [e_16]; rfl) d_Mo_newFault_49 ?_
  refine lv_aload_n G.1 G.2.1 d_Mo_newFault_52 rfl (lv_at hl 1 rfl) ?_
  refine ugf (v := .ref (ad b_15)) G hP h_a0 iMo rfl 45 (by decide) rfl q3109 rfl (by show va_rf ((sO s_12 a0 45).map ad) = _; rw [e_16]; rfl) d_Mo_newFault_53 ?_
  refine ugfN (v := .ref (yP y_11 b_15 55)) G hP c_17 iMw rfl 55 (by decide) rfl q2808 rfl rfl d_Mo_newFault_56 ?_
  refine lv_iload_n G.1 G.2.1 d_Mo_newFault_59 rfl (lv_at hl 0 rfl) ?_
  refine lv_iconst (v := 1) G.1 G.2.1 d_Mo_newFault_60 (by decide) ?_
  refine lv_iadd G.1 G.2.1 d_Mo_newFault_61 ?_
  refine uroomN (C := RMw) (T := TMw) (N := 72) G hP hD hS (fun ws0 q1 q t n f sz he ht hn => c_Mo_room_k l D g ws0 q1 q t n f sz he ht hn) (fun ws0 q1 q t n f sz he hn ht hf => c_Mo_room_g l D g ws0 q1 q t n f sz he hn ht hf) w9_Mo_room q2596 ⟨Nat.le_of_ble_eq_true rfl, Nat.le_of_ble_eq_true rfl⟩ (Nat.le_refl _) (Nat.le_refl _) hd (by decide) c_17 rfl rfl iMw tMw tMw_ok nMw rfl (by decide) q2808 rfl rfl (fun _ => rfl) (fun _ => rfl) hl.1 (Nat.le_of_ble_eq_true rfl) h d_Mo_newFault_62 d_Mo_newFault_65 (fun y_18 s_19 d_20 e_21 H locs h hP hD hS => ?_)
  obtain ⟨hd, h⟩ := h
  refine lv_aload_n G.1 G.2.1 d_Mo_newFault_68 rfl (lv_at hl 1 rfl) ?_
  obtain ⟨b_22, e_23, c_24, h⟩ := h
  refine ugf (v := .ref (ad b_22)) G hP h_a0 iMo rfl 45 (by decide) rfl q3109 rfl (by show va_rf ((sO s_19 a0 45).map ad) = _; rw [e_23]; rfl) d_Mo_newFault_69 ?_
  refine ugfN (v := .ref (yP y_18 b_22 53)) G hP c_24 iMw rfl 53 (by decide) rfl q2804 rfl rfl d_Mo_newFault_72 ?_
  refine lv_iload_n G.1 G.2.1 d_Mo_newFault_75 rfl (lv_at hl 0 rfl) ?_
  refine W.eq (g2 := F0 m 76 ls [.int (sV σ b_1 56), .ref (yP y_18 b_22 53)]) rfl ?_
  refine lv_iload_n G.1 G.2.1 d_Mo_newFault_76 rfl (lv_at hl 2 rfl) ?_
  refine uiast G hP hD hS (kdp c_24 rfl) (typ c_24 rfl) h d_Mo_newFault_77 (fun s_25 H locs h hP hD hS => ?_)
  refine lv_aload_n G.1 G.2.1 d_Mo_newFault_78 rfl (lv_at hl 1 rfl) ?_
  obtain ⟨b_26, e_27, c_28, h⟩ := h
  refine ugf (v := .ref (ad b_26)) G hP h_a0 iMo rfl 45 (by decide) rfl q3109 rfl (by show va_rf ((sO s_25 a0 45).map ad) = _; rw [e_27]; rfl) d_Mo_newFault_79 ?_
  refine ugfN (v := .ref (yP y_18 b_26 54)) G hP c_28 iMw rfl 54 (by decide) rfl q2806 rfl rfl d_Mo_newFault_82 ?_
  refine lv_iload_n G.1 G.2.1 d_Mo_newFault_85 rfl (lv_at hl 0 rfl) ?_
  refine lv_iload_n G.1 G.2.1 d_Mo_newFault_86 rfl (lv_at hl 3 rfl) ?_
  refine uiast G hP hD hS (kdp c_28 rfl) (typ c_28 rfl) h d_Mo_newFault_87 (fun s_29 H locs h hP hD hS => ?_)
  refine lv_aload_n G.1 G.2.1 d_Mo_newFault_88 rfl (lv_at hl 1 rfl) ?_
  obtain ⟨b_30, e_31, c_32, h⟩ := h
  refine ugf (v := .ref (ad b_30)) G hP h_a0 iMo rfl 45 (by decide) rfl q3109 rfl (by show va_rf ((sO s_29 a0 45).map ad) = _; rw [e_31]; rfl) d_Mo_newFault_89 ?_
  refine ugfN (v := .ref (yP y_18 b_30 55)) G hP c_32 iMw rfl 55 (by decide) rfl q2808 rfl rfl d_Mo_newFault_92 ?_
  refine lv_iload_n G.1 G.2.1 d_Mo_newFault_95 rfl (lv_at hl 0 rfl) ?_
  refine W.eq (g2 := F0 m 96 ls [.int (sV σ b_1 56), .ref (yP y_18 b_30 55)]) rfl ?_
  refine lv_iconst (v := 0) G.1 G.2.1 d_Mo_newFault_96 (by decide) ?_
  refine uiast G hP hD hS (kdp c_32 rfl) (typ c_32 rfl) h d_Mo_newFault_97 (fun s_33 H locs h hP hD hS => ?_)
  refine lv_aload_n G.1 G.2.1 d_Mo_newFault_98 rfl (lv_at hl 1 rfl) ?_
  obtain ⟨b_34, e_35, c_36, h⟩ := h
  refine ugf (v := .ref (ad b_34)) G hP h_a0 iMo rfl 45 (by decide) rfl q3109 rfl (by show va_rf ((sO s_33 a0 45).map ad) = _; rw [e_35]; rfl) d_Mo_newFault_99 ?_
  refine lv_aload_n G.1 G.2.1 d_Mo_newFault_102 rfl (lv_at hl 1 rfl) ?_
  refine ugf (v := .ref (ad b_34)) G hP h_a0 iMo rfl 45 (by decide) rfl q3109 rfl (by show va_rf ((sO s_33 a0 45).map ad) = _; rw [e_35]; rfl) d_Mo_newFault_103 ?_
  refine ugfN (v := .ref (yP y_18 b_34 58)) G hP c_36 iMw rfl 58 (by decide) rfl q2813 rfl rfl d_Mo_newFault_106 ?_
  refine lv_iload_n G.1 G.2.1 d_Mo_newFault_109 rfl (lv_at hl 0 rfl) ?_
  refine lv_iconst (v := 1) G.1 G.2.1 d_Mo_newFault_110 (by decide) ?_
  refine lv_iadd G.1 G.2.1 d_Mo_newFault_111 ?_
  refine uroomN (C := RMw) (T := TMw) (N := 72) G hP hD hS (fun ws0 q1 q t n f sz he ht hn => c_Mo_room_k l D g ws0 q1 q t n f sz he ht hn) (fun ws0 q1 q t n f sz he hn ht hf => c_Mo_room_g l D g ws0 q1 q t n f sz he hn ht hf) w9_Mo_room q2596 ⟨Nat.le_of_ble_eq_true rfl, Nat.le_of_ble_eq_true rfl⟩ (Nat.le_refl _) (Nat.le_refl _) hd (by decide) c_36 rfl rfl iMw tMw tMw_ok nMw rfl (by decide) q2813 rfl rfl (fun _ => rfl) (fun _ => rfl) hl.1 (Nat.le_of_ble_eq_true rfl) h d_Mo_newFault_112 d_Mo_newFault_115 (fun y_37 s_38 d_39 e_40 H locs h hP hD hS => ?_)
  have hl := lv_sub (l' := [(3, .int (sV σ b_1 56)), (0, .ref (ad a0))]) hl [0, 1] rfl
  obtain ⟨hd, h⟩ := h
  refine lv_aload_n G.1 G.2.1 d_Mo_newFault_118 rfl (lv_at hl 1 rfl) ?_
  refine W.eq (g2 := F0 m 119 ls [.ref (ad a0)]) rfl ?_
  obtain ⟨b_41, e_42, c_43, h⟩ := h
  refine ugf (v := .ref (ad b_41)) G hP h_a0 iMo rfl 45 (by decide) rfl q3109 rfl (by show va_rf ((sO s_38 a0 45).map ad) = _; rw [e_42]; rfl) d_Mo_newFault_119 ?_
  refine lv_dup G.1 G.2.1 d_Mo_newFault_122 rfl ?_
  refine ugfN (v := .int (sV s_38 b_41 56)) G hP c_43 iMw rfl 56 (by decide) rfl q2809 rfl rfl d_Mo_newFault_123 ?_
  refine lv_iconst (v := 1) G.1 G.2.1 d_Mo_newFault_126 (by decide) ?_
  refine lv_iadd G.1 G.2.1 d_Mo_newFault_127 ?_
  refine upfN G hP hD hS h 56 putV c_43 iMw tMw tMw_ok nMw rfl (by decide) rfl q2809 rfl rfl fV rfl rfl d_Mo_newFault_128 (fun s_44 H locs h hP hD hS => ?_)
  refine lv_sipush (v := 1001) G.1 G.2.1 d_Mo_newFault_131 (by decide) ?_
  refine lv_iload_n G.1 G.2.1 d_Mo_newFault_134 rfl (lv_at hl 0 rfl) ?_
  refine lv_iadd G.1 G.2.1 d_Mo_newFault_135 ?_
  exact hret _ (y_37, s_44, d_39, e_40) _ _ _ _ _ ls h hP hD hS (Nat.le_refl _) (Nat.le_refl _) hd.1 hd.2 d_Mo_newFault_136
theorem q3887 : Cond.methodLink "ClassWorksModel" 954 y_Mo_newFault ∈ lw_ok := lw_okmem (List.mem_of_getElem? (i := 3887) (by decide +kernel)) rfl
theorem q3890 : Cond.code y_Mo_newFault b_Mo_newFault 4 (some .int) ∈ lw_ok := lw_okmem (List.mem_of_getElem? (i := 3890) (by decide +kernel)) rfl
theorem q3889 : Cond.instanceMethod y_Mo_newFault ∈ lw_ok := lw_okmem (List.mem_of_getElem? (i := 3889) (by decide +kernel)) rfl
theorem q261 : Cond.selects y_Mo_newFault.cls y_Mo_newFault y_Mo_newFault ∈ lw_ok := lw_okmem (List.mem_of_getElem? (i := 261) (by decide +kernel)) rfl
theorem w9_Mo_newFault : CWv y_Mo_newFault b_Mo_newFault 4 (some .int) 2 ∧ Cond.instanceMethod y_Mo_newFault ∈ lw_ok ∧ Cond.selects y_Mo_newFault.cls y_Mo_newFault y_Mo_newFault ∈ lw_ok := ⟨⟨q3890, q348, by decide +kernel, by decide +kernel, by decide +kernel⟩, q3889, q261⟩
theorem q3895 : Cond.methodLink "ClassWorksModel" 967 y_Mo_handlerOf ∈ lw_ok := lw_okmem (List.mem_of_getElem? (i := 3895) (by decide +kernel)) rfl
theorem q3898 : Cond.code y_Mo_handlerOf b_Mo_handlerOf 7 (some .int) ∈ lw_ok := lw_okmem (List.mem_of_getElem? (i := 3898) (by decide +kernel)) rfl
theorem q3897 : Cond.instanceMethod y_Mo_handlerOf ∈ lw_ok := lw_okmem (List.mem_of_getElem? (i := 3897) (by decide +kernel)) rfl
theorem q263 : Cond.selects y_Mo_handlerOf.cls y_Mo_handlerOf y_Mo_handlerOf ∈ lw_ok := lw_okmem (List.mem_of_getElem? (i := 263) (by decide +kernel)) rfl
theorem w9_Mo_handlerOf : CWv y_Mo_handlerOf b_Mo_handlerOf 7 (some .int) 2 ∧ Cond.instanceMethod y_Mo_handlerOf ∈ lw_ok ∧ Cond.selects y_Mo_handlerOf.cls y_Mo_handlerOf y_Mo_handlerOf ∈ lw_ok := ⟨⟨q3898, q348, by decide +kernel, by decide +kernel, by decide +kernel⟩, q3897, q263⟩
def y_Mo_unwind : MethodName := ⟨"ClassWorksModel", "unwind", "(I)V"⟩
abbrev b_Mo_unwind : ByteArray := prog_14_method_100_code
theorem d_Mo_unwind_0 : decode b_Mo_unwind 0 = .ok (.iload_n 1, 1) := by decide +kernel
theorem d_Mo_unwind_1 : decode b_Mo_unwind 1 = .ok (.istore_n 2, 1) := by decide +kernel
theorem d_Mo_unwind_2 : decode b_Mo_unwind 2 = .ok (.aload_n 0, 1) := by decide +kernel
theorem d_Mo_unwind_3 : decode b_Mo_unwind 3 = .ok (.getfield 917, 3) := by decide +kernel
theorem d_Mo_unwind_6 : decode b_Mo_unwind 6 = .ok (.getfield 945, 3) := by decide +kernel
theorem d_Mo_unwind_9 : decode b_Mo_unwind 9 = .ok (.ifCond .le 202, 3) := by decide +kernel
theorem d_Mo_unwind_12 : decode b_Mo_unwind 12 = .ok (.aload_n 0, 1) := by decide +kernel
theorem d_Mo_unwind_13 : decode b_Mo_unwind 13 = .ok (.getfield 917, 3) := by decide +kernel
theorem d_Mo_unwind_16 : decode b_Mo_unwind 16 = .ok (.getfield 945, 3) := by decide +kernel
theorem d_Mo_unwind_19 : decode b_Mo_unwind 19 = .ok (.iconst 1, 1) := by decide +kernel
theorem d_Mo_unwind_20 : decode b_Mo_unwind 20 = .ok (.isub, 1) := by decide +kernel
theorem d_Mo_unwind_21 : decode b_Mo_unwind 21 = .ok (.istore_n 3, 1) := by decide +kernel
theorem d_Mo_unwind_22 : decode b_Mo_unwind 22 = .ok (.aload_n 0, 1) := by decide +kernel
theorem d_Mo_unwind_23 : decode b_Mo_unwind 23 = .ok (.getfield 917, 3) := by decide +kernel
theorem d_Mo_unwind_26 : decode b_Mo_unwind 26 = .ok (.getfield 942, 3) := by decide +kernel
theorem d_Mo_unwind_29 : decode b_Mo_unwind 29 = .ok (.iload_n 3, 1) := by decide +kernel
theorem d_Mo_unwind_30 : decode b_Mo_unwind 30 = .ok (.iaload, 1) := by decide +kernel
theorem d_Mo_unwind_31 : decode b_Mo_unwind 31 = .ok (.istore 4, 2) := by decide +kernel
theorem d_Mo_unwind_33 : decode b_Mo_unwind 33 = .ok (.iload 4, 2) := by decide +kernel
theorem d_Mo_unwind_35 : decode b_Mo_unwind 35 = .ok (.ifCond .lt 104, 3) := by decide +kernel
theorem d_Mo_unwind_38 : decode b_Mo_unwind 38 = .ok (.aload_n 0, 1) := by decide +kernel
theorem d_Mo_unwind_39 : decode b_Mo_unwind 39 = .ok (.iload 4, 2) := by decide +kernel
theorem d_Mo_unwind_41 : decode b_Mo_unwind 41 = .ok (.iload_n 2, 1) := by decide +kernel
theorem d_Mo_unwind_42 : decode b_Mo_unwind 42 = .ok (.invokevirtual 967, 3) := by decide +kernel
theorem d_Mo_unwind_45 : decode b_Mo_unwind 45 = .ok (.istore 5, 2) := by decide +kernel
theorem d_Mo_unwind_47 : decode b_Mo_unwind 47 = .ok (.iload 5, 2) := by decide +kernel
theorem d_Mo_unwind_49 : decode b_Mo_unwind 49 = .ok (.ifCond .lt 59, 3) := by decide +kernel
theorem d_Mo_unwind_52 : decode b_Mo_unwind 52 = .ok (.aload_n 0, 1) := by decide +kernel
theorem d_Mo_unwind_53 : decode b_Mo_unwind 53 = .ok (.getfield 917, 3) := by decide +kernel
theorem d_Mo_unwind_56 : decode b_Mo_unwind 56 = .ok (.getfield 933, 3) := by decide +kernel
theorem d_Mo_unwind_59 : decode b_Mo_unwind 59 = .ok (.iload 4, 2) := by decide +kernel
theorem d_Mo_unwind_61 : decode b_Mo_unwind 61 = .ok (.iconst 0, 1) := by decide +kernel
theorem d_Mo_unwind_62 : decode b_Mo_unwind 62 = .ok (.iastore, 1) := by decide +kernel
theorem d_Mo_unwind_63 : decode b_Mo_unwind 63 = .ok (.aload_n 0, 1) := by decide +kernel
theorem d_Mo_unwind_64 : decode b_Mo_unwind 64 = .ok (.iload 4, 2) := by decide +kernel
theorem d_Mo_unwind_66 : decode b_Mo_unwind 66 = .ok (.iload_n 2, 1) := by decide +kernel
theorem d_Mo_unwind_67 : decode b_Mo_unwind 67 = .ok (.iconst 1, 1) := by decide +kernel
theorem d_Mo_unwind_68 : decode b_Mo_unwind 68 = .ok (.invokevirtual 970, 3) := by decide +kernel
theorem d_Mo_unwind_71 : decode b_Mo_unwind 71 = .ok (.aload_n 0, 1) := by decide +kernel
theorem d_Mo_unwind_72 : decode b_Mo_unwind 72 = .ok (.getfield 917, 3) := by decide +kernel
theorem d_Mo_unwind_75 : decode b_Mo_unwind 75 = .ok (.getfield 930, 3) := by decide +kernel
theorem d_Mo_unwind_78 : decode b_Mo_unwind 78 = .ok (.iload 4, 2) := by decide +kernel
theorem d_Mo_unwind_80 : decode b_Mo_unwind 80 = .ok (.aload_n 0, 1) := by decide +kernel
theorem d_Mo_unwind_81 : decode b_Mo_unwind 81 = .ok (.getfield 522, 3) := by decide +kernel
theorem d_Mo_unwind_84 : decode b_Mo_unwind 84 = .ok (.getfield 719, 3) := by decide +kernel
theorem d_Mo_unwind_87 : decode b_Mo_unwind 87 = .ok (.iload 5, 2) := by decide +kernel
theorem d_Mo_unwind_89 : decode b_Mo_unwind 89 = .ok (.iaload, 1) := by decide +kernel
theorem d_Mo_unwind_90 : decode b_Mo_unwind 90 = .ok (.iastore, 1) := by decide +kernel
theorem d_Mo_unwind_91 : decode b_Mo_unwind 91 = .ok (.aload_n 0, 1) := by decide +kernel
theorem d_Mo_unwind_92 : decode b_Mo_unwind 92 = .ok (.bipush 7, 2) := by decide +kernel
theorem d_Mo_unwind_94 : decode b_Mo_unwind 94 = .ok (.aload_n 0, 1) := by decide +kernel
theorem d_Mo_unwind_95 : decode b_Mo_unwind 95 = .ok (.getfield 917, 3) := by decide +kernel
theorem d_Mo_unwind_98 : decode b_Mo_unwind 98 = .ok (.getfield 927, 3) := by decide +kernel
theorem d_Mo_unwind_101 : decode b_Mo_unwind 101 = .ok (.iload 4, 2) := by decide +kernel
theorem d_Mo_unwind_103 : decode b_Mo_unwind 103 = .ok (.iaload, 1) := by decide +kernel
theorem d_Mo_unwind_104 : decode b_Mo_unwind 104 = .ok (.invokevirtual 951, 3) := by decide +kernel
theorem d_Mo_unwind_107 : decode b_Mo_unwind 107 = .ok (.return_, 1) := by decide +kernel
theorem d_Mo_unwind_108 : decode b_Mo_unwind 108 = .ok (.aload_n 0, 1) := by decide +kernel
theorem d_Mo_unwind_109 : decode b_Mo_unwind 109 = .ok (.getfield 917, 3) := by decide +kernel
theorem d_Mo_unwind_112 : decode b_Mo_unwind 112 = .ok (.dup, 1) := by decide +kernel
theorem d_Mo_unwind_113 : decode b_Mo_unwind 113 = .ok (.getfield 924, 3) := by decide +kernel
theorem d_Mo_unwind_116 : decode b_Mo_unwind 116 = .ok (.iconst 1, 1) := by decide +kernel
theorem d_Mo_unwind_117 : decode b_Mo_unwind 117 = .ok (.isub, 1) := by decide +kernel
theorem d_Mo_unwind_118 : decode b_Mo_unwind 118 = .ok (.putfield 924, 3) := by decide +kernel
theorem d_Mo_unwind_121 : decode b_Mo_unwind 121 = .ok (.aload_n 0, 1) := by decide +kernel
theorem d_Mo_unwind_122 : decode b_Mo_unwind 122 = .ok (.iconst 3, 1) := by decide +kernel
theorem d_Mo_unwind_123 : decode b_Mo_unwind 123 = .ok (.aload_n 0, 1) := by decide +kernel
theorem d_Mo_unwind_124 : decode b_Mo_unwind 124 = .ok (.getfield 917, 3) := by decide +kernel
theorem d_Mo_unwind_127 : decode b_Mo_unwind 127 = .ok (.getfield 927, 3) := by decide +kernel
theorem d_Mo_unwind_130 : decode b_Mo_unwind 130 = .ok (.iload 4, 2) := by decide +kernel
theorem d_Mo_unwind_132 : decode b_Mo_unwind 132 = .ok (.iaload, 1) := by decide +kernel
theorem d_Mo_unwind_133 : decode b_Mo_unwind 133 = .ok (.invokevirtual 951, 3) := by decide +kernel
theorem d_Mo_unwind_136 : decode b_Mo_unwind 136 = .ok (.goto 59, 3) := by decide +kernel
theorem d_Mo_unwind_139 : decode b_Mo_unwind 139 = .ok (.aload_n 0, 1) := by decide +kernel
theorem d_Mo_unwind_140 : decode b_Mo_unwind 140 = .ok (.getfield 522, 3) := by decide +kernel
theorem d_Mo_unwind_143 : decode b_Mo_unwind 143 = .ok (.getfield 441, 3) := by decide +kernel
theorem d_Mo_unwind_146 : decode b_Mo_unwind 146 = .ok (.iconst (-1), 1) := by decide +kernel
theorem d_Mo_unwind_147 : decode b_Mo_unwind 147 = .ok (.iload 4, 2) := by decide +kernel
theorem d_Mo_unwind_149 : decode b_Mo_unwind 149 = .ok (.isub, 1) := by decide +kernel
theorem d_Mo_unwind_150 : decode b_Mo_unwind 150 = .ok (.iconst 3, 1) := by decide +kernel
theorem d_Mo_unwind_151 : decode b_Mo_unwind 151 = .ok (.iastore, 1) := by decide +kernel
theorem d_Mo_unwind_152 : decode b_Mo_unwind 152 = .ok (.aload_n 0, 1) := by decide +kernel
theorem d_Mo_unwind_153 : decode b_Mo_unwind 153 = .ok (.bipush 6, 2) := by decide +kernel
theorem d_Mo_unwind_155 : decode b_Mo_unwind 155 = .ok (.iload 4, 2) := by decide +kernel
theorem d_Mo_unwind_157 : decode b_Mo_unwind 157 = .ok (.invokevirtual 951, 3) := by decide +kernel
theorem d_Mo_unwind_160 : decode b_Mo_unwind 160 = .ok (.aload_n 0, 1) := by decide +kernel
theorem d_Mo_unwind_161 : decode b_Mo_unwind 161 = .ok (.getfield 917, 3) := by decide +kernel
theorem d_Mo_unwind_164 : decode b_Mo_unwind 164 = .ok (.getfield 948, 3) := by decide +kernel
theorem d_Mo_unwind_167 : decode b_Mo_unwind 167 = .ok (.iload_n 3, 1) := by decide +kernel
theorem d_Mo_unwind_168 : decode b_Mo_unwind 168 = .ok (.iaload, 1) := by decide +kernel
theorem d_Mo_unwind_169 : decode b_Mo_unwind 169 = .ok (.iconst 2, 1) := by decide +kernel
theorem d_Mo_unwind_170 : decode b_Mo_unwind 170 = .ok (.if_icmp .ne 25, 3) := by decide +kernel
theorem d_Mo_unwind_173 : decode b_Mo_unwind 173 = .ok (.aload_n 0, 1) := by decide +kernel
theorem d_Mo_unwind_174 : decode b_Mo_unwind 174 = .ok (.aload_n 0, 1) := by decide +kernel
theorem d_Mo_unwind_175 : decode b_Mo_unwind 175 = .ok (.iload_n 2, 1) := by decide +kernel
theorem d_Mo_unwind_176 : decode b_Mo_unwind 176 = .ok (.invokevirtual 960, 3) := by decide +kernel
theorem d_Mo_unwind_179 : decode b_Mo_unwind 179 = .ok (.bipush 10, 2) := by decide +kernel
theorem d_Mo_unwind_181 : decode b_Mo_unwind 181 = .ok (.invokevirtual 963, 3) := by decide +kernel
theorem d_Mo_unwind_184 : decode b_Mo_unwind 184 = .ok (.ifCond .ne 11, 3) := by decide +kernel
theorem d_Mo_unwind_187 : decode b_Mo_unwind 187 = .ok (.aload_n 0, 1) := by decide +kernel
theorem d_Mo_unwind_188 : decode b_Mo_unwind 188 = .ok (.bipush 20, 2) := by decide +kernel
theorem d_Mo_unwind_190 : decode b_Mo_unwind 190 = .ok (.iconst 0, 1) := by decide +kernel
theorem d_Mo_unwind_191 : decode b_Mo_unwind 191 = .ok (.invokevirtual 954, 3) := by decide +kernel
theorem d_Mo_unwind_194 : decode b_Mo_unwind 194 = .ok (.istore_n 2, 1) := by decide +kernel
theorem d_Mo_unwind_195 : decode b_Mo_unwind 195 = .ok (.aload_n 0, 1) := by decide +kernel
theorem d_Mo_unwind_196 : decode b_Mo_unwind 196 = .ok (.getfield 917, 3) := by decide +kernel
theorem d_Mo_unwind_199 : decode b_Mo_unwind 199 = .ok (.dup, 1) := by decide +kernel
theorem d_Mo_unwind_200 : decode b_Mo_unwind 200 = .ok (.getfield 945, 3) := by decide +kernel
theorem d_Mo_unwind_203 : decode b_Mo_unwind 203 = .ok (.iconst 1, 1) := by decide +kernel
theorem d_Mo_unwind_204 : decode b_Mo_unwind 204 = .ok (.isub, 1) := by decide +kernel
theorem d_Mo_unwind_205 : decode b_Mo_unwind 205 = .ok (.putfield 945, 3) := by decide +kernel
theorem d_Mo_unwind_208 : decode b_Mo_unwind 208 = .ok (.goto (-206), 3) := by decide +kernel
theorem d_Mo_unwind_211 : decode b_Mo_unwind 211 = .ok (.aload_n 0, 1) := by decide +kernel
theorem d_Mo_unwind_212 : decode b_Mo_unwind 212 = .ok (.getfield 917, 3) := by decide +kernel
theorem d_Mo_unwind_215 : decode b_Mo_unwind 215 = .ok (.iconst 2, 1) := by decide +kernel
theorem d_Mo_unwind_216 : decode b_Mo_unwind 216 = .ok (.putfield 486, 3) := by decide +kernel
theorem d_Mo_unwind_219 : decode b_Mo_unwind 219 = .ok (.aload_n 0, 1) := by decide +kernel
theorem d_Mo_unwind_220 : decode b_Mo_unwind 220 = .ok (.getfield 917, 3) := by decide +kernel
theorem d_Mo_unwind_223 : decode b_Mo_unwind 223 = .ok (.iconst 0, 1) := by decide +kernel
theorem d_Mo_unwind_224 : decode b_Mo_unwind 224 = .ok (.putfield 974, 3) := by decide +kernel
theorem d_Mo_unwind_227 : decode b_Mo_unwind 227 = .ok (.aload_n 0, 1) := by decide +kernel
theorem d_Mo_unwind_228 : decode b_Mo_unwind 228 = .ok (.getfield 917, 3) := by decide +kernel
theorem d_Mo_unwind_231 : decode b_Mo_unwind 231 = .ok (.iconst 0, 1) := by decide +kernel
theorem d_Mo_unwind_232 : decode b_Mo_unwind 232 = .ok (.putfield 977, 3) := by decide +kernel
theorem d_Mo_unwind_235 : decode b_Mo_unwind 235 = .ok (.aload_n 0, 1) := by decide +kernel
theorem d_Mo_unwind_236 : decode b_Mo_unwind 236 = .ok (.getfield 917, 3) := by decide +kernel
theorem d_Mo_unwind_239 : decode b_Mo_unwind 239 = .ok (.aload_n 0, 1) := by decide +kernel
theorem d_Mo_unwind_240 : decode b_Mo_unwind 240 = .ok (.iload_n 2, 1) := by decide +kernel
theorem d_Mo_unwind_241 : decode b_Mo_unwind 241 = .ok (.invokevirtual 960, 3) := by decide +kernel
theorem d_Mo_unwind_244 : decode b_Mo_unwind 244 = .ok (.putfield 980, 3) := by decide +kernel
theorem d_Mo_unwind_247 : decode b_Mo_unwind 247 = .ok (.aload_n 0, 1) := by decide +kernel
theorem d_Mo_unwind_248 : decode b_Mo_unwind 248 = .ok (.getfield 917, 3) := by decide +kernel
theorem d_Mo_unwind_251 : decode b_Mo_unwind 251 = .ok (.iload_n 2, 1) := by decide +kernel
theorem d_Mo_unwind_252 : decode b_Mo_unwind 252 = .ok (.sipush 1001, 3) := by decide +kernel
theorem d_Mo_unwind_255 : decode b_Mo_unwind 255 = .ok (.if_icmp .lt 19, 3) := by decide +kernel
theorem d_Mo_unwind_258 : decode b_Mo_unwind 258 = .ok (.aload_n 0, 1) := by decide +kernel
theorem d_Mo_unwind_259 : decode b_Mo_unwind 259 = .ok (.getfield 522, 3) := by decide +kernel
theorem d_Mo_unwind_262 : decode b_Mo_unwind 262 = .ok (.getfield 875, 3) := by decide +kernel
theorem d_Mo_unwind_265 : decode b_Mo_unwind 265 = .ok (.iload_n 2, 1) := by decide +kernel
theorem d_Mo_unwind_266 : decode b_Mo_unwind 266 = .ok (.sipush 1001, 3) := by decide +kernel
theorem d_Mo_unwind_269 : decode b_Mo_unwind 269 = .ok (.isub, 1) := by decide +kernel
theorem d_Mo_unwind_270 : decode b_Mo_unwind 270 = .ok (.iaload, 1) := by decide +kernel
theorem d_Mo_unwind_271 : decode b_Mo_unwind 271 = .ok (.goto 4, 3) := by decide +kernel
theorem d_Mo_unwind_274 : decode b_Mo_unwind 274 = .ok (.iconst 0, 1) := by decide +kernel
theorem d_Mo_unwind_275 : decode b_Mo_unwind 275 = .ok (.putfield 983, 3) := by decide +kernel
theorem d_Mo_unwind_278 : decode b_Mo_unwind 278 = .ok (.return_, 1) := by decide +kernel
abbrev ra_Mo_unwind (mc ms : Nat) : Room := { frames := 6, cells := mc, slots := ms, locals := 173 }
def wja_Mo_unwind_275 (mc ms : Nat) (Post : Ly → St → Nat → Nat → Prop) (a0 : Nat) (y_j275 : Ly) (s_j275 : St) (d_j275 e_j275 : Nat) (z0j275 : Nat) (z1j275 : Int32) : Prop := (d_j275 ≤ mc ∧ e_j275 ≤ ms) ∧ cl z0j275 = 12 ∧ xP (uV s_j275 z0j275 13 z1j275) (fun s_22 : St => Post y_j275 s_22 d_j275 e_j275)
def wja_Mo_unwind_195 (mc ms : Nat) (Post : Ly → St → Nat → Nat → Prop) (K_2 : Ly → St → Nat → Nat → Int32 → Prop) (a0 : Nat) (y_j195 : Ly) (s_j195 : St) (d_j195 e_j195 : Nat) (x2j195 : Int32) : Prop := (d_j195 ≤ mc ∧ e_j195 ≤ ms) ∧ ∃ b_28 : Nat, sO s_j195 a0 46 = some b_28 ∧ cl b_28 = 12 ∧ xP (uV s_j195 b_28 16 ((sV s_j195 b_28 16) - 1)) (fun s_31 : St => K_2 y_j195 s_31 d_j195 e_j195 x2j195)
def wba_Mo_unwind_2 (mc ms : Nat) (Post : Ly → St → Nat → Nat → Prop) (K_2 : Ly → St → Nat → Nat → Int32 → Prop) (a0 : Nat) (y_h2 : Ly) (s_h2 : St) (d_h2 e_h2 : Nat) (x2h2 : Int32) : Prop := (d_h2 ≤ mc ∧ e_h2 ≤ ms) ∧ ∃ b_1 : Nat, sO s_h2 a0 46 = some b_1 ∧ cl b_1 = 12 ∧ (((sV s_h2 b_1 16) ≤ 0 → xP (uV s_h2 b_1 0 2) (fun s_4 : St => ∃ b_5 : Nat, sO s_4 a0 46 = some b_5 ∧ cl b_5 = 12 ∧ xP (uV s_4 b_5 10 0) (fun s_8 : St => ∃ b_9 : Nat, sO s_8 a0 46 = some b_9 ∧ cl b_9 = 12 ∧ xP (uV s_8 b_9 11 0) (fun s_12 : St => ∃ b_13 : Nat, sO s_12 a0 46 = some b_13 ∧ cl b_13 = 12 ∧ wu_Mo_classOfRef y_h2 (fun (s_17 : St) (r_16 : Int32) => xP (uV s_17 b_13 12 r_16) (fun s_18 : St => ∃ b_19 : Nat, sO s_18 a0 46 = some b_19 ∧ cl b_19 = 12 ∧ ((x2h2 < 1001 → wja_Mo_unwind_275 mc ms Post a0 y_h2 s_18 d_h2 e_h2 b_19 0) ∧ (¬ (x2h2 < 1001) → ∃ b_23 : Nat, sO s_18 a0 45 = some b_23 ∧ cl b_23 = 13 ∧ xA y_h2 s_18 b_23 54 (x2h2 - 1001) (fun x_26 : Int32 => wja_Mo_unwind_275 mc ms Post a0 y_h2 s_18 d_h2 e_h2 b_19 x_26))))) s_12 a0 x2h2)))) ∧ (¬ ((sV s_h2 b_1 16) ≤ 0) → xA y_h2 s_h2 b_1 14 ((sV s_h2 b_1 16) - 1) (fun x_27 : Int32 => ((x_27 < 0 → ∃ b_32 : Nat, sO s_h2 a0 45 = some b_32 ∧ cl b_32 = 13 ∧ xS y_h2 s_h2 b_32 10 ((-1) - x_27) 3 (fun s_35 : St => wu_Mo_note y_h2 (fun (s_37 : St) => ∃ b_38 : Nat, sO s_37 a0 46 = some b_38 ∧ cl b_38 = 12 ∧ xA y_h2 s_37 b_38 15 ((sV s_h2 b_1 16) - 1) (fun x_41 : Int32 => ((¬ x_41 = 2 → wja_Mo_unwind_195 mc ms Post K_2 a0 y_h2 s_37 d_h2 e_h2 x2h2) ∧ (x_41 = 2 → wu_Mo_classOfRef y_h2 (fun (s_43 : St) (r_42 : Int32) => wu_Mo_isBelow y_h2 (fun (s_45 : St) (r_44 : Int32) => ((¬ r_44 = 0 → wja_Mo_unwind_195 mc ms Post K_2 a0 y_h2 s_45 d_h2 e_h2 x2h2) ∧ (r_44 = 0 → ∃ mc_51 ms_52 : Nat, (d_h2 + mc_51 ≤ mc ∧ e_h2 + ms_52 ≤ ms) ∧ wa_Mo_newFault mc_51 ms_52 y_h2 (fun (y_48 : Ly) (s_47 : St) (r_46 : Int32) (d_49 e_50 : Nat) => (d_h2 + d_49 ≤ mc ∧ e_h2 + e_50 ≤ ms) ∧ wja_Mo_unwind_195 mc ms Post K_2 a0 y_48 s_47 (d_h2 + d_49) (e_h2 + e_50) r_46) s_45 a0 20 0))) s_43 a0 r_42 10) s_37 a0 x2h2)))) s_35 a0 6 x_27)) ∧ (¬ (x_27 < 0) → wu_Mo_handlerOf y_h2 (fun (s_55 : St) (r_54 : Int32) => ((r_54 < 0 → ∃ b_56 : Nat, sO s_55 a0 46 = some b_56 ∧ cl b_56 = 12 ∧ xP (uV s_55 b_56 22 ((sV s_55 b_56 22) - 1)) (fun s_59 : St => ∃ b_60 : Nat, sO s_59 a0 46 = some b_60 ∧ cl b_60 = 12 ∧ xA y_h2 s_59 b_60 17 x_27 (fun x_63 : Int32 => wu_Mo_note y_h2 (fun (s_65 : St) => wja_Mo_unwind_195 mc ms Post K_2 a0 y_h2 s_65 d_h2 e_h2 x2h2) s_59 a0 3 x_63))) ∧ (¬ (r_54 < 0) → ∃ b_66 : Nat, sO s_55 a0 46 = some b_66 ∧ cl b_66 = 12 ∧ xS y_h2 s_55 b_66 19 x_27 0 (fun s_69 : St => wu_Mo_push y_h2 (fun (s_71 : St) => ∃ b_72 : Nat, sO s_71 a0 46 = some b_72 ∧ cl b_72 = 12 ∧ ∃ b_75 : Nat, sO s_71 a0 45 = some b_75 ∧ cl b_75 = 13 ∧ xA y_h2 s_71 b_75 28 r_54 (fun x_78 : Int32 => xS y_h2 s_71 b_72 18 x_27 x_78 (fun s_79 : St => ∃ b_80 : Nat, sO s_79 a0 46 = some b_80 ∧ cl b_80 = 12 ∧ xA y_h2 s_79 b_80 17 x_27 (fun x_83 : Int32 => wu_Mo_note y_h2 (fun (s_85 : St) => Post y_h2 s_85 d_h2 e_h2) s_79 a0 7 x_83)))) s_69 a0 x_27 x2h2 1)))) s_h2 a0 x_27 x2h2)))))
def wla_Mo_unwind_2 (mc ms : Nat) (Post : Ly → St → Nat → Nat → Prop) (a0 : Nat) (y_h2 : Ly) (s_h2 : St) (d_h2 e_h2 : Nat) (x2h2 : Int32) : Prop := ∃ (I : Ly → St → Nat → Nat → Int32 → Prop) (μ : Ly → St → Nat → Nat → Int32 → Nat), I y_h2 s_h2 d_h2 e_h2 x2h2 ∧ ∀ (u1 : Ly) (u2 : St) (u3 u4 : Nat) (t0 : Int32), I u1 u2 u3 u4 t0 → wba_Mo_unwind_2 mc ms Post (fun z1 z2 z3 z4 t0q => I z1 z2 z3 z4 t0q ∧ μ z1 z2 z3 z4 t0q < μ u1 u2 u3 u4 t0) a0 u1 u2 u3 u4 t0
def wa_Mo_unwind (mc ms : Nat) (y : Ly) (Post : Ly → St → Nat → Nat → Prop) (σ : St) (a0 : Nat) (v1 : Int32) : Prop := wla_Mo_unwind_2 mc ms Post a0 y σ 0 0 v1
set_option maxHeartbeats 4000000 in
set_option maxRecDepth 100000 in
theorem ca_Mo_unwind (l : Launch) (D : va_G) (g : Nat → ClassId) (ad : Nat → Nat) (mc ms : Nat) (y : Ly) (Post : Ly → St → Nat → Nat → Prop) (σ : St) (a0 : Nat) (v1 : Int32) (sz uz : Nat) (h_a0 : cl a0 = 14) (h : wa_Mo_unwind mc ms y Post σ a0 v1) : Met l y_Mo_unwind (mw y_Mo_unwind b_Mo_unwind 6 (none)) (ra_Mo_unwind mc ms) (PCu g D [] [.ref (ad a0), .int v1] sz uz (ws g ad y σ)) (va_Qv (fun (u : Ly × St × Nat × Nat) => Post u.1 u.2.1 u.2.2.1 u.2.2.2) (QU D (va_A (ws g ad y σ) sz) (fun u => ws g ad u.1 u.2.1) sz uz (fun u => u.2.2.1) (fun u => u.2.2.2)) (va_A (ws g ad y σ) sz)) mc ms (va_A (ws g ad y σ) sz) := by
  refine ofVu (by decide +kernel) (Nat.le_of_ble_eq_true rfl) ?_
  intro p e s m args below meth c A Q ls H locs G hsz hP hD hS hl hret
  subst hsz
  have hl : lv_has ls 6 [(0, .ref (ad a0)), (1, .int v1)] := hl
  have hd : 0 ≤ mc ∧ 0 ≤ ms := ⟨Nat.zero_le _, Nat.zero_le _⟩
  unfold wa_Mo_unwind at h
  refine lv_iload_n G.1 G.2.1 d_Mo_unwind_0 rfl (lv_at hl 1 rfl) ?_
  refine lv_istore_n (lv' := [(2, .int v1), (0, .ref (ad a0)), (1, .int v1)]) G.1 G.2.1 d_Mo_unwind_1 rfl hl (by decide) rfl (fun ls hl => ?_)
  unfold wla_Mo_unwind_2 at h
  obtain ⟨I_2, μ_2, hI_2, hB_2⟩ := h
  have L_2 : ∀ (n_2 : Nat) (y_h2 : Ly) (s_h2 : St) (d_h2 e_h2 : Nat) (x2h2 : Int32), μ_2 y_h2 s_h2 d_h2 e_h2 x2h2 < n_2 → I_2 y_h2 s_h2 d_h2 e_h2 x2h2 → ∀ (H : Heap) (locs : List Loc), va_P D CL (ws g ad y_h2 s_h2) H → va_D A (ws g ad y_h2 s_h2) → va_S A s.heap H locs → ∀ ls, lv_has ls 6 [(0, .ref (ad a0)), (2, .int x2h2)] → W p l e (ra_Mo_unwind mc ms) s m args below meth c H locs d_h2 e_h2 Q (F0 m 2 ls []) := by
    intro n_2
    induction n_2 with
    | zero => intro y_h2 s_h2 d_h2 e_h2 x2h2 hμ; exact absurd hμ (Nat.not_lt_zero _)
    | succ n_2 ih_2 =>
      intro y_h2 s_h2 d_h2 e_h2 x2h2 hμ_2 hJ H locs hP hD hS ls hl
      obtain ⟨K_2, hK_2, h⟩ : ∃ K : Ly → St → Nat → Nat → Int32 → Prop, (∀ z1 z2 z3 z4 (t0 : Int32), K z1 z2 z3 z4 t0 → I_2 z1 z2 z3 z4 t0 ∧ μ_2 z1 z2 z3 z4 t0 < μ_2 y_h2 s_h2 d_h2 e_h2 x2h2) ∧ wba_Mo_unwind_2 mc ms Post K a0 y_h2 s_h2 d_h2 e_h2 x2h2 := ⟨_, fun _ _ _ _ _ h => h, hB_2 y_h2 s_h2 d_h2 e_h2 x2h2 hJ⟩
      unfold wba_Mo_unwind_2 at h
      obtain ⟨hd, h⟩ := h
      refine lv_aload_n G.1 G.2.1 d_Mo_unwind_2 rfl (lv_at hl 0 rfl) ?_
      obtain ⟨b_1, e_2, c_3, h⟩ := h
      refine ugf (v := .ref (ad b_1)) G hP h_a0 iMo rfl 46 (by decide) rfl q3110 rfl (by show va_rf ((sO s_h2 a0 46).map ad) = _; rw [e_2]; rfl) d_Mo_unwind_3 ?_
      refine ugfN (v := .int (sV s_h2 b_1 16)) G hP c_3 iMr rfl 16 (by decide) rfl q3005 rfl rfl d_Mo_unwind_6 ?_
      refine lv_if_le (tgt := 211) G.1 G.2.1 d_Mo_unwind_9 (by decide) (fun c9 => ?_) (fun c9 => ?_)
      · skip
        have h := h.1 c9
        refine lv_aload_n G.1 G.2.1 d_Mo_unwind_211 rfl (lv_at hl 0 rfl) ?_
        refine ugf (v := .ref (ad b_1)) G hP h_a0 iMo rfl 46 (by decide) rfl q3110 rfl (by show va_rf ((sO s_h2 a0 46).map ad) = _; rw [e_2]; rfl) d_Mo_unwind_212 ?_
        refine lv_iconst (v := 2) G.1 G.2.1 d_Mo_unwind_215 (by decide) ?_
        refine upfN G hP hD hS h 0 putV c_3 iMr tMr tMr_ok nMr rfl (by decide) rfl q2987 rfl rfl fV rfl rfl d_Mo_unwind_216 (fun s_4 H locs h hP hD hS => ?_)
        refine lv_aload_n G.1 G.2.1 d_Mo_unwind_219 rfl (lv_at hl 0 rfl) ?_
        obtain ⟨b_5, e_6, c_7, h⟩ := h
        refine ugf (v := .ref (ad b_5)) G hP h_a0 iMo rfl 46 (by decide) rfl q3110 rfl (by show va_rf ((sO s_4 a0 46).map ad) = _; rw [e_6]; rfl) d_Mo_unwind_220 ?_
        refine lv_iconst (v := 0) G.1 G.2.1 d_Mo_unwind_223 (by decide) ?_
        refine W.eq (g2 := F0 m 224 ls [.int 0, .ref (ad b_5)]) rfl ?_
        refine upfN G hP hD hS h 10 putV c_7 iMr tMr tMr_ok nMr rfl (by decide) rfl q2997 rfl rfl fV rfl rfl d_Mo_unwind_224 (fun s_8 H locs h hP hD hS => ?_)
        refine lv_aload_n G.1 G.2.1 d_Mo_unwind_227 rfl (lv_at hl 0 rfl) ?_
        obtain ⟨b_9, e_10, c_11, h⟩ := h
        refine ugf (v := .ref (ad b_9)) G hP h_a0 iMo rfl 46 (by decide) rfl q3110 rfl (by show va_rf ((sO s_8 a0 46).map ad) = _; rw [e_10]; rfl) d_Mo_unwind_228 ?_
        refine lv_iconst (v := 0) G.1 G.2.1 d_Mo_unwind_231 (by decide) ?_
        refine upfN G hP hD hS h 11 putV c_11 iMr tMr tMr_ok nMr rfl (by decide) rfl q2998 rfl rfl fV rfl rfl d_Mo_unwind_232 (fun s_12 H locs h hP hD hS => ?_)
        refine lv_aload_n G.1 G.2.1 d_Mo_unwind_235 rfl (lv_at hl 0 rfl) ?_
        obtain ⟨b_13, e_14, c_15, h⟩ := h
        refine ugf (v := .ref (ad b_13)) G hP h_a0 iMo rfl 46 (by decide) rfl q3110 rfl (by show va_rf ((sO s_12 a0 46).map ad) = _; rw [e_14]; rfl) d_Mo_unwind_236 ?_
        refine lv_aload_n G.1 G.2.1 d_Mo_unwind_239 rfl (lv_at hl 0 rfl) ?_
        refine lv_iload_n G.1 G.2.1 d_Mo_unwind_240 rfl (lv_at hl 1 rfl) ?_
        refine ucVi (As := [.int x2h2]) (rest := [.ref (ad b_13)]) G hP hD hS (cu_Mo_classOfRef l D g ad y_h2 _ s_12 a0 x2h2 H.size h_a0 h) w9_Mo_classOfRef q3899 ⟨Nat.le_of_ble_eq_true rfl, Nat.le_of_ble_eq_true rfl⟩ rfl rfl h_a0 (q := (RMo, TMo, 131)) rfl rfl hl.1 rfl (Nat.le_of_ble_eq_true rfl) rfl hd d_Mo_unwind_241 (fun r_16 s_17 H locs h hP hD hS => ?_)
        refine upfN G hP hD hS h 12 putV c_15 iMr tMr tMr_ok nMr rfl (by decide) rfl q2999 rfl rfl fV rfl rfl d_Mo_unwind_244 (fun s_18 H locs h hP hD hS => ?_)
        refine lv_aload_n G.1 G.2.1 d_Mo_unwind_247 rfl (lv_at hl 0 rfl) ?_
        refine W.eq (g2 := F0 m 248 ls [.ref (ad a0)]) rfl ?_
        obtain ⟨b_19, e_20, c_21, h⟩ := h
        refine ugf (v := .ref (ad b_19)) G hP h_a0 iMo rfl 46 (by decide) rfl q3110 rfl (by show va_rf ((sO s_18 a0 46).map ad) = _; rw [e_20]; rfl) d_Mo_unwind_248 ?_
        refine lv_iload_n G.1 G.2.1 d_Mo_unwind_251 rfl (lv_at hl 1 rfl) ?_
        refine lv_sipush (v := 1001) G.1 G.2.1 d_Mo_unwind_252 (by decide) ?_
        have J_275 : ∀ (y_j275 : Ly) (s_j275 : St) (d_j275 e_j275 : Nat) (z0j275 : Nat) (z1j275 : Int32) (H : Heap) (locs : List Loc), wja_Mo_unwind_275 mc ms Post a0 y_j275 s_j275 d_j275 e_j275 z0j275 z1j275 → va_P D CL (ws g ad y_j275 s_j275) H → va_D A (ws g ad y_j275 s_j275) → va_S A s.heap H locs → ∀ ls, lv_has ls 6 [] → W p l e (ra_Mo_unwind mc ms) s m args below meth c H locs d_j275 e_j275 Q (F0 m 275 ls [.int z1j275, .ref (ad z0j275)]) := by
          intro y_j275 s_j275 d_j275 e_j275 z0j275 z1j275 H locs h hP hD hS ls hl
          unfold wja_Mo_unwind_275 at h
          obtain ⟨hd, h⟩ := h
          obtain ⟨c_z0j275, h⟩ := h
          refine upfN G hP hD hS h 13 putV c_z0j275 iMr tMr tMr_ok nMr rfl (by decide) rfl q3000 rfl rfl fV rfl rfl d_Mo_unwind_275 (fun s_22 H locs h hP hD hS => ?_)
          exact hret (y_j275, s_22, d_j275, e_j275) _ _ _ _ _ ls h hP hD hS (Nat.le_refl _) (Nat.le_refl _) hd.1 hd.2 d_Mo_unwind_278
        refine lv_icmp_lt (tgt := 274) G.1 G.2.1 d_Mo_unwind_255 (by decide) (fun c255 => ?_) (fun c255 => ?_)
        · skip
          have h := h.1 c255
          refine lv_iconst (v := 0) G.1 G.2.1 d_Mo_unwind_274 (by decide) ?_
          exact J_275 y_h2 s_18 d_h2 e_h2 b_19 0 H locs h hP hD hS ls (lv_sub hl [] rfl)
        · skip
          have h := h.2 c255
          refine lv_aload_n G.1 G.2.1 d_Mo_unwind_258 rfl (lv_at hl 0 rfl) ?_
          obtain ⟨b_23, e_24, c_25, h⟩ := h
          refine ugf (v := .ref (ad b_23)) G hP h_a0 iMo rfl 45 (by decide) rfl q3109 rfl (by show va_rf ((sO s_18 a0 45).map ad) = _; rw [e_24]; rfl) d_Mo_unwind_259 ?_
          refine ugfN (v := .ref (yP y_h2 b_23 54)) G hP c_25 iMw rfl 54 (by decide) rfl q2806 rfl rfl d_Mo_unwind_262 ?_
          refine lv_iload_n G.1 G.2.1 d_Mo_unwind_265 rfl (lv_at hl 1 rfl) ?_
          refine lv_sipush (v := 1001) G.1 G.2.1 d_Mo_unwind_266 (by decide) ?_
          refine lv_isub G.1 G.2.1 d_Mo_unwind_269 ?_
          refine uiald G hP (kdp c_25 rfl) (typ c_25 rfl) h d_Mo_unwind_270 (fun x_26 h => ?_)
          refine lv_goto (tgt := 275) G.1 G.2.1 d_Mo_unwind_271 (by decide) ?_
          exact J_275 y_h2 s_18 d_h2 e_h2 b_19 x_26 H locs h hP hD hS ls (lv_sub hl [] rfl)
      · skip
        have h := h.2 c9
        refine lv_aload_n G.1 G.2.1 d_Mo_unwind_12 rfl (lv_at hl 0 rfl) ?_
        refine ugf (v := .ref (ad b_1)) G hP h_a0 iMo rfl 46 (by decide) rfl q3110 rfl (by show va_rf ((sO s_h2 a0 46).map ad) = _; rw [e_2]; rfl) d_Mo_unwind_13 ?_
        refine ugfN (v := .int (sV s_h2 b_1 16)) G hP c_3 iMr rfl 16 (by decide) rfl q3005 rfl rfl d_Mo_unwind_16 ?_
        refine lv_iconst (v := 1) G.1 G.2.1 d_Mo_unwind_19 (by decide) ?_
        refine lv_isub G.1 G.2.1 d_Mo_unwind_20 ?_
        refine lv_istore_n (lv' := [(3, .int ((sV s_h2 b_1 16) - 1)), (0, .ref (ad a0)), (2, .int x2h2)]) G.1 G.2.1 d_Mo_unwind_21 rfl hl (by decide) rfl (fun ls hl => ?_)
        refine lv_aload_n G.1 G.2.1 d_Mo_unwind_22 rfl (lv_at hl 1 rfl) ?_
        refine W.eq (g2 := F0 m 23 ls [.ref (ad a0)]) rfl ?_
        refine ugf (v := .ref (ad b_1)) G hP h_a0 iMo rfl 46 (by decide) rfl q3110 rfl (by show va_rf ((sO s_h2 a0 46).map ad) = _; rw [e_2]; rfl) d_Mo_unwind_23 ?_
        refine ugfN (v := .ref (yP y_h2 b_1 14)) G hP c_3 iMr rfl 14 (by decide) rfl q3002 rfl rfl d_Mo_unwind_26 ?_
        refine lv_iload_n G.1 G.2.1 d_Mo_unwind_29 rfl (lv_at hl 0 rfl) ?_
        refine uiald G hP (kdp c_3 rfl) (typ c_3 rfl) h d_Mo_unwind_30 (fun x_27 h => ?_)
        refine lv_istore (lv' := [(4, .int x_27), (3, .int ((sV s_h2 b_1 16) - 1)), (0, .ref (ad a0)), (2, .int x2h2)]) G.1 G.2.1 d_Mo_unwind_31 hl (by decide) rfl (fun ls hl => ?_)
        refine lv_iload G.1 G.2.1 d_Mo_unwind_33 (lv_at hl 0 rfl) ?_
        have J_195 : ∀ (y_j195 : Ly) (s_j195 : St) (d_j195 e_j195 : Nat) (x2j195 : Int32) (H : Heap) (locs : List Loc), wja_Mo_unwind_195 mc ms Post K_2 a0 y_j195 s_j195 d_j195 e_j195 x2j195 → va_P D CL (ws g ad y_j195 s_j195) H → va_D A (ws g ad y_j195 s_j195) → va_S A s.heap H locs → ∀ ls, lv_has ls 6 [(0, .ref (ad a0)), (2, .int x2j195)] → W p l e (ra_Mo_unwind mc ms) s m args below meth c H locs d_j195 e_j195 Q (F0 m 195 ls []) := by
          intro y_j195 s_j195 d_j195 e_j195 x2j195 H locs h hP hD hS ls hl
          unfold wja_Mo_unwind_195 at h
          obtain ⟨hd, h⟩ := h
          refine lv_aload_n G.1 G.2.1 d_Mo_unwind_195 rfl (lv_at hl 0 rfl) ?_
          obtain ⟨b_28, e_29, c_30, h⟩ := h
          refine ugf (v := .ref (ad b_28)) G hP h_a0 iMo rfl 46 (by decide) rfl q3110 rfl (by show va_rf ((sO s_j195 a0 46).map ad) = _; rw [e_29]; rfl) d_Mo_unwind_196 ?_
          refine lv_dup G.1 G.2.1 d_Mo_unwind_199 rfl ?_
          refine ugfN (v := .int (sV s_j195 b_28 16)) G hP c_30 iMr rfl 16 (by decide) rfl q3005 rfl rfl d_Mo_unwind_200 ?_
          refine lv_iconst (v := 1) G.1 G.2.1 d_Mo_unwind_203 (by decide) ?_
          refine lv_isub G.1 G.2.1 d_Mo_unwind_204 ?_
          refine upfN G hP hD hS h 16 putV c_30 iMr tMr tMr_ok nMr rfl (by decide) rfl q3005 rfl rfl fV rfl rfl d_Mo_unwind_205 (fun s_31 H locs h hP hD hS => ?_)
          refine lv_goto (tgt := 2) G.1 G.2.1 d_Mo_unwind_208 (by decide) ?_
          have h := hK_2 y_j195 s_31 d_j195 e_j195 x2j195 h
          exact ih_2 y_j195 s_31 d_j195 e_j195 x2j195 (Nat.lt_of_lt_of_le h.2 (Nat.le_of_lt_succ hμ_2)) h.1 H locs hP hD hS ls (lv_sub hl [0, 1] rfl)
        refine lv_if_lt (tgt := 139) G.1 G.2.1 d_Mo_unwind_35 (by decide) (fun c35 => ?_) (fun c35 => ?_)
        · skip
          have h := h.1 c35
          refine lv_aload_n G.1 G.2.1 d_Mo_unwind_139 rfl (lv_at hl 2 rfl) ?_
          obtain ⟨b_32, e_33, c_34, h⟩ := h
          refine ugf (v := .ref (ad b_32)) G hP h_a0 iMo rfl 45 (by decide) rfl q3109 rfl (by show va_rf ((sO s_h2 a0 45).map ad) = _; rw [e_33]; rfl) d_Mo_unwind_140 ?_
          refine ugfN (v := .ref (yP y_h2 b_32 10)) G hP c_34 iMw rfl 10 (by decide) rfl q2724 rfl rfl d_Mo_unwind_143 ?_
          refine lv_iconst (v := (-1)) G.1 G.2.1 d_Mo_unwind_146 (by decide) ?_
          refine lv_iload G.1 G.2.1 d_Mo_unwind_147 (lv_at hl 0 rfl) ?_
          refine W.eq (g2 := F0 m 149 ls [.int x_27, .int (-1), .ref (yP y_h2 b_32 10)]) rfl ?_
          refine lv_isub G.1 G.2.1 d_Mo_unwind_149 ?_
          refine lv_iconst (v := 3) G.1 G.2.1 d_Mo_unwind_150 (by decide) ?_
          refine uiast G hP hD hS (kdp c_34 rfl) (typ c_34 rfl) h d_Mo_unwind_151 (fun s_35 H locs h hP hD hS => ?_)
          refine lv_aload_n G.1 G.2.1 d_Mo_unwind_152 rfl (lv_at hl 2 rfl) ?_
          refine lv_bipush (v := 6) G.1 G.2.1 d_Mo_unwind_153 (by decide) ?_
          refine lv_iload G.1 G.2.1 d_Mo_unwind_155 (lv_at hl 0 rfl) ?_
          refine ucVv (As := [.int 6, .int x_27]) (rest := []) G hP hD hS (cu_Mo_note l D g ad y_h2 _ s_35 a0 6 x_27 H.size h_a0 h) w9_Mo_note q3879 ⟨Nat.le_of_ble_eq_true rfl, Nat.le_of_ble_eq_true rfl⟩ rfl rfl h_a0 (q := (RMo, TMo, 131)) rfl rfl hl.1 rfl (Nat.le_of_ble_eq_true rfl) rfl hd d_Mo_unwind_157 (fun s_37 H locs h hP hD hS => ?_)
          refine lv_aload_n G.1 G.2.1 d_Mo_unwind_160 rfl (lv_at hl 2 rfl) ?_
          obtain ⟨b_38, e_39, c_40, h⟩ := h
          refine ugf (v := .ref (ad b_38)) G hP h_a0 iMo rfl 46 (by decide) rfl q3110 rfl (by show va_rf ((sO s_37 a0 46).map ad) = _; rw [e_39]; rfl) d_Mo_unwind_161 ?_
          refine ugfN (v := .ref (yP y_h2 b_38 15)) G hP c_40 iMr rfl 15 (by decide) rfl q3004 rfl rfl d_Mo_unwind_164 ?_
          refine lv_iload_n G.1 G.2.1 d_Mo_unwind_167 rfl (lv_at hl 1 rfl) ?_
          refine uiald G hP (kdp c_40 rfl) (typ c_40 rfl) h d_Mo_unwind_168 (fun x_41 h => ?_)
          refine W.eq (g2 := F0 m 169 ls [.int x_41]) rfl ?_
          refine lv_iconst (v := 2) G.1 G.2.1 d_Mo_unwind_169 (by decide) ?_
          refine lv_icmp_ne (tgt := 195) G.1 G.2.1 d_Mo_unwind_170 (by decide) (fun c170 => ?_) (fun c170 => ?_)
          · skip
            have h := h.1 c170
            exact J_195 y_h2 s_37 d_h2 e_h2 x2h2 H locs h hP hD hS ls (lv_sub hl [2, 3] rfl)
          · skip
            have h := h.2 c170
            refine lv_aload_n G.1 G.2.1 d_Mo_unwind_173 rfl (lv_at hl 2 rfl) ?_
            refine lv_aload_n G.1 G.2.1 d_Mo_unwind_174 rfl (lv_at hl 2 rfl) ?_
            refine lv_iload_n G.1 G.2.1 d_Mo_unwind_175 rfl (lv_at hl 3 rfl) ?_
            refine ucVi (As := [.int x2h2]) (rest := [.ref (ad a0)]) G hP hD hS (cu_Mo_classOfRef l D g ad y_h2 _ s_37 a0 x2h2 H.size h_a0 h) w9_Mo_classOfRef q3899 ⟨Nat.le_of_ble_eq_true rfl, Nat.le_of_ble_eq_true rfl⟩ rfl rfl h_a0 (q := (RMo, TMo, 131)) rfl rfl hl.1 rfl (Nat.le_of_ble_eq_true rfl) rfl hd d_Mo_unwind_176 (fun r_42 s_43 H locs h hP hD hS => ?_)
            refine lv_bipush (v := 10) G.1 G.2.1 d_Mo_unwind_179 (by decide) ?_
            refine ucVi (As := [.int r_42, .int 10]) (rest := []) G hP hD hS (cu_Mo_isBelow l D g ad y_h2 _ s_43 a0 r_42 10 H.size h_a0 h) w9_Mo_isBelow q3903 ⟨Nat.le_of_ble_eq_true rfl, Nat.le_of_ble_eq_true rfl⟩ rfl rfl h_a0 (q := (RMo, TMo, 131)) rfl rfl hl.1 rfl (Nat.le_of_ble_eq_true rfl) rfl hd d_Mo_unwind_181 (fun r_44 s_45 H locs h hP hD hS => ?_)
            refine lv_if_ne (tgt := 195) G.1 G.2.1 d_Mo_unwind_184 (by decide) (fun c184 => ?_) (fun c184 => ?_)
            · skip
              have h := h.1 c184
              exact J_195 y_h2 s_45 d_h2 e_h2 x2h2 H locs h hP hD hS ls (lv_sub hl [2, 3] rfl)
            · skip
              have h := h.2 c184
              refine lv_aload_n G.1 G.2.1 d_Mo_unwind_187 rfl (lv_at hl 2 rfl) ?_
              refine lv_bipush (v := 20) G.1 G.2.1 d_Mo_unwind_188 (by decide) ?_
              refine lv_iconst (v := 0) G.1 G.2.1 d_Mo_unwind_190 (by decide) ?_
              refine W.eq (g2 := F0 m 191 ls [.int 0, .int 20, .ref (ad a0)]) rfl ?_
              obtain ⟨mc_51, ms_52, hr_53, h⟩ := h
              refine uaVi (As := [.int 20, .int 0]) (rest := []) G hP hD hS (ca_Mo_newFault l D g ad mc_51 ms_52 y_h2 _ s_45 a0 20 0 H.size (us H) h_a0 h) w9_Mo_newFault q3887 ⟨Nat.le_of_ble_eq_true rfl, Nat.le_of_ble_eq_true rfl⟩ rfl rfl h_a0 (q := (RMo, TMo, 131)) rfl rfl hl.1 rfl (Nat.le_of_ble_eq_true rfl) rfl hr_53 d_Mo_unwind_191 (fun r_46 y_48 s_47 d_49 e_50 H locs h hP hD hS => ?_)
              have hl := lv_sub (l' := [(0, .ref (ad a0))]) hl [2] rfl
              obtain ⟨hd, h⟩ := h
              refine lv_istore_n (lv' := [(2, .int r_46), (0, .ref (ad a0))]) G.1 G.2.1 d_Mo_unwind_194 rfl hl (by decide) rfl (fun ls hl => ?_)
              exact J_195 y_48 s_47 (d_h2 + d_49) (e_h2 + e_50) r_46 H locs h hP hD hS ls (lv_sub hl [1, 0] rfl)
        · skip
          have h := h.2 c35
          refine lv_aload_n G.1 G.2.1 d_Mo_unwind_38 rfl (lv_at hl 2 rfl) ?_
          refine lv_iload G.1 G.2.1 d_Mo_unwind_39 (lv_at hl 0 rfl) ?_
          refine lv_iload_n G.1 G.2.1 d_Mo_unwind_41 rfl (lv_at hl 3 rfl) ?_
          refine ucVi (As := [.int x_27, .int x2h2]) (rest := []) G hP hD hS (cu_Mo_handlerOf l D g ad y_h2 _ s_h2 a0 x_27 x2h2 H.size h_a0 h) w9_Mo_handlerOf q3895 ⟨Nat.le_of_ble_eq_true rfl, Nat.le_of_ble_eq_true rfl⟩ rfl rfl h_a0 (q := (RMo, TMo, 131)) rfl rfl hl.1 rfl (Nat.le_of_ble_eq_true rfl) rfl hd d_Mo_unwind_42 (fun r_54 s_55 H locs h hP hD hS => ?_)
          refine lv_istore (lv' := [(5, .int r_54), (4, .int x_27), (3, .int ((sV s_h2 b_1 16) - 1)), (0, .ref (ad a0)), (2, .int x2h2)]) G.1 G.2.1 d_Mo_unwind_45 hl (by decide) rfl (fun ls hl => ?_)
          refine W.eq (g2 := F0 m 47 ls []) rfl ?_
          refine lv_iload G.1 G.2.1 d_Mo_unwind_47 (lv_at hl 0 rfl) ?_
          refine lv_if_lt (tgt := 108) G.1 G.2.1 d_Mo_unwind_49 (by decide) (fun c49 => ?_) (fun c49 => ?_)
          · skip
            have h := h.1 c49
            refine lv_aload_n G.1 G.2.1 d_Mo_unwind_108 rfl (lv_at hl 3 rfl) ?_
            obtain ⟨b_56, e_57, c_58, h⟩ := h
            refine ugf (v := .ref (ad b_56)) G hP h_a0 iMo rfl 46 (by decide) rfl q3110 rfl (by show va_rf ((sO s_55 a0 46).map ad) = _; rw [e_57]; rfl) d_Mo_unwind_109 ?_
            refine lv_dup G.1 G.2.1 d_Mo_unwind_112 rfl ?_
            refine ugfN (v := .int (sV s_55 b_56 22)) G hP c_58 iMr rfl 22 (by decide) rfl q3016 rfl rfl d_Mo_unwind_113 ?_
            refine lv_iconst (v := 1) G.1 G.2.1 d_Mo_unwind_116 (by decide) ?_
            refine lv_isub G.1 G.2.1 d_Mo_unwind_117 ?_
            refine upfN G hP hD hS h 22 putV c_58 iMr tMr tMr_ok nMr rfl (by decide) rfl q3016 rfl rfl fV rfl rfl d_Mo_unwind_118 (fun s_59 H locs h hP hD hS => ?_)
            refine lv_aload_n G.1 G.2.1 d_Mo_unwind_121 rfl (lv_at hl 3 rfl) ?_
            refine lv_iconst (v := 3) G.1 G.2.1 d_Mo_unwind_122 (by decide) ?_
            refine lv_aload_n G.1 G.2.1 d_Mo_unwind_123 rfl (lv_at hl 3 rfl) ?_
            refine W.eq (g2 := F0 m 124 ls [.ref (ad a0), .int 3, .ref (ad a0)]) rfl ?_
            obtain ⟨b_60, e_61, c_62, h⟩ := h
            refine ugf (v := .ref (ad b_60)) G hP h_a0 iMo rfl 46 (by decide) rfl q3110 rfl (by show va_rf ((sO s_59 a0 46).map ad) = _; rw [e_61]; rfl) d_Mo_unwind_124 ?_
            refine ugfN (v := .ref (yP y_h2 b_60 17)) G hP c_62 iMr rfl 17 (by decide) rfl q3007 rfl rfl d_Mo_unwind_127 ?_
            refine lv_iload G.1 G.2.1 d_Mo_unwind_130 (lv_at hl 1 rfl) ?_
            refine uiald G hP (kdp c_62 rfl) (typ c_62 rfl) h d_Mo_unwind_132 (fun x_63 h => ?_)
            refine ucVv (As := [.int 3, .int x_63]) (rest := []) G hP hD hS (cu_Mo_note l D g ad y_h2 _ s_59 a0 3 x_63 H.size h_a0 h) w9_Mo_note q3879 ⟨Nat.le_of_ble_eq_true rfl, Nat.le_of_ble_eq_true rfl⟩ rfl rfl h_a0 (q := (RMo, TMo, 131)) rfl rfl hl.1 rfl (Nat.le_of_ble_eq_true rfl) rfl hd d_Mo_unwind_133 (fun s_65 H locs h hP hD hS => ?_)
            refine lv_goto (tgt := 195) G.1 G.2.1 d_Mo_unwind_136 (by decide) ?_
            exact J_195 y_h2 s_65 d_h2 e_h2 x2h2 H locs h hP hD hS ls (lv_sub hl [3, 4] rfl)
          · skip
            have h := h.2 c49
            refine lv_aload_n G.1 G.2.1 d_Mo_unwind_52 rfl (lv_at hl 3 rfl) ?_
            obtain ⟨b_66, e_67, c_68, h⟩ := h
            refine ugf (v := .ref (ad b_66)) G hP h_a0 iMo rfl 46 (by decide) rfl q3110 rfl (by show va_rf ((sO s_55 a0 46).map ad) = _; rw [e_67]; rfl) d_Mo_unwind_53 ?_
            refine ugfN (v := .ref (yP y_h2 b_66 19)) G hP c_68 iMr rfl 19 (by decide) rfl q3011 rfl rfl d_Mo_unwind_56 ?_
            refine lv_iload G.1 G.2.1 d_Mo_unwind_59 (lv_at hl 1 rfl) ?_
            refine lv_iconst (v := 0) G.1 G.2.1 d_Mo_unwind_61 (by decide) ?_
            refine uiast G hP hD hS (kdp c_68 rfl) (typ c_68 rfl) h d_Mo_unwind_62 (fun s_69 H locs h hP hD hS => ?_)
            refine lv_aload_n G.1 G.2.1 d_Mo_unwind_63 rfl (lv_at hl 3 rfl) ?_
            refine lv_iload G.1 G.2.1 d_Mo_unwind_64 (lv_at hl 1 rfl) ?_
            refine lv_iload_n G.1 G.2.1 d_Mo_unwind_66 rfl (lv_at hl 4 rfl) ?_
            refine lv_iconst (v := 1) G.1 G.2.1 d_Mo_unwind_67 (by decide) ?_
            refine W.eq (g2 := F0 m 68 ls [.int 1, .int x2h2, .int x_27, .ref (ad a0)]) rfl ?_
            refine ucVv (As := [.int x_27, .int x2h2, .int 1]) (rest := []) G hP hD hS (cu_Mo_push l D g ad y_h2 _ s_69 a0 x_27 x2h2 1 H.size h_a0 h) w9_Mo_push q3907 ⟨Nat.le_of_ble_eq_true rfl, Nat.le_of_ble_eq_true rfl⟩ rfl rfl h_a0 (q := (RMo, TMo, 131)) rfl rfl hl.1 rfl (Nat.le_of_ble_eq_true rfl) rfl hd d_Mo_unwind_68 (fun s_71 H locs h hP hD hS => ?_)
            refine lv_aload_n G.1 G.2.1 d_Mo_unwind_71 rfl (lv_at hl 3 rfl) ?_
            obtain ⟨b_72, e_73, c_74, h⟩ := h
            refine ugf (v := .ref (ad b_72)) G hP h_a0 iMo rfl 46 (by decide) rfl q3110 rfl (by show va_rf ((sO s_71 a0 46).map ad) = _; rw [e_73]; rfl) d_Mo_unwind_72 ?_
            refine ugfN (v := .ref (yP y_h2 b_72 18)) G hP c_74 iMr rfl 18 (by decide) rfl q3009 rfl rfl d_Mo_unwind_75 ?_
            refine lv_iload G.1 G.2.1 d_Mo_unwind_78 (lv_at hl 1 rfl) ?_
            refine lv_aload_n G.1 G.2.1 d_Mo_unwind_80 rfl (lv_at hl 3 rfl) ?_
            obtain ⟨b_75, e_76, c_77, h⟩ := h
            refine ugf (v := .ref (ad b_75)) G hP h_a0 iMo rfl 45 (by decide) rfl q3109 rfl (by show va_rf ((sO s_71 a0 45).map ad) = _; rw [e_76]; rfl) d_Mo_unwind_81 ?_
            refine ugfN (v := .ref (yP y_h2 b_75 28)) G hP c_77 iMw rfl 28 (by decide) rfl q2760 rfl rfl d_Mo_unwind_84 ?_
            refine lv_iload G.1 G.2.1 d_Mo_unwind_87 (lv_at hl 0 rfl) ?_
            refine uiald G hP (kdp c_77 rfl) (typ c_77 rfl) h d_Mo_unwind_89 (fun x_78 h => ?_)
            refine uiast G hP hD hS (kdp c_74 rfl) (typ c_74 rfl) h d_Mo_unwind_90 (fun s_79 H locs h hP hD hS => ?_)
            refine lv_aload_n G.1 G.2.1 d_Mo_unwind_91 rfl (lv_at hl 3 rfl) ?_
            refine W.eq (g2 := F0 m 92 ls [.ref (ad a0)]) rfl ?_
            refine lv_bipush (v := 7) G.1 G.2.1 d_Mo_unwind_92 (by decide) ?_
            refine lv_aload_n G.1 G.2.1 d_Mo_unwind_94 rfl (lv_at hl 3 rfl) ?_
            obtain ⟨b_80, e_81, c_82, h⟩ := h
            refine ugf (v := .ref (ad b_80)) G hP h_a0 iMo rfl 46 (by decide) rfl q3110 rfl (by show va_rf ((sO s_79 a0 46).map ad) = _; rw [e_81]; rfl) d_Mo_unwind_95 ?_
            refine ugfN (v := .ref (yP y_h2 b_80 17)) G hP c_82 iMr rfl 17 (by decide) rfl q3007 rfl rfl d_Mo_unwind_98 ?_
            refine lv_iload G.1 G.2.1 d_Mo_unwind_101 (lv_at hl 1 rfl) ?_
            refine uiald G hP (kdp c_82 rfl) (typ c_82 rfl) h d_Mo_unwind_103 (fun x_83 h => ?_)
            refine ucVv (As := [.int 7, .int x_83]) (rest := []) G hP hD hS (cu_Mo_note l D g ad y_h2 _ s_79 a0 7 x_83 H.size h_a0 h) w9_Mo_note q3879 ⟨Nat.le_of_ble_eq_true rfl, Nat.le_of_ble_eq_true rfl⟩ rfl rfl h_a0 (q := (RMo, TMo, 131)) rfl rfl hl.1 rfl (Nat.le_of_ble_eq_true rfl) rfl hd d_Mo_unwind_104 (fun s_85 H locs h hP hD hS => ?_)
            exact hret (y_h2, s_85, d_h2, e_h2) _ _ _ _ _ ls h hP hD hS (Nat.le_refl _) (Nat.le_refl _) hd.1 hd.2 d_Mo_unwind_107
  exact L_2 _ y σ 0 0 v1 (Nat.lt_succ_self _) hI_2 H locs hP hD hS ls (lv_sub hl [1, 0] rfl)
theorem q3891 : Cond.methodLink "ClassWorksModel" 957 y_Mo_unwind ∈ lw_ok := lw_okmem (List.mem_of_getElem? (i := 3891) (by decide +kernel)) rfl
theorem q3894 : Cond.code y_Mo_unwind b_Mo_unwind 6 (none) ∈ lw_ok := lw_okmem (List.mem_of_getElem? (i := 3894) (by decide +kernel)) rfl
theorem q3893 : Cond.instanceMethod y_Mo_unwind ∈ lw_ok := lw_okmem (List.mem_of_getElem? (i := 3893) (by decide +kernel)) rfl
theorem q262 : Cond.selects y_Mo_unwind.cls y_Mo_unwind y_Mo_unwind ∈ lw_ok := lw_okmem (List.mem_of_getElem? (i := 262) (by decide +kernel)) rfl
theorem w9_Mo_unwind : CWv y_Mo_unwind b_Mo_unwind 6 (none) 1 ∧ Cond.instanceMethod y_Mo_unwind ∈ lw_ok ∧ Cond.selects y_Mo_unwind.cls y_Mo_unwind y_Mo_unwind ∈ lw_ok := ⟨⟨q3894, q348, by decide +kernel, by decide +kernel, by decide +kernel⟩, q3893, q262⟩
def y_Mo_throwNew : MethodName := ⟨"ClassWorksModel", "throwNew", "(II)V"⟩
abbrev b_Mo_throwNew : ByteArray := prog_14_method_98_code
theorem d_Mo_throwNew_0 : decode b_Mo_throwNew 0 = .ok (.aload_n 0, 1) := by decide +kernel
theorem d_Mo_throwNew_1 : decode b_Mo_throwNew 1 = .ok (.aload_n 0, 1) := by decide +kernel
theorem d_Mo_throwNew_2 : decode b_Mo_throwNew 2 = .ok (.iload_n 2, 1) := by decide +kernel
theorem d_Mo_throwNew_3 : decode b_Mo_throwNew 3 = .ok (.iload_n 1, 1) := by decide +kernel
theorem d_Mo_throwNew_4 : decode b_Mo_throwNew 4 = .ok (.invokevirtual 954, 3) := by decide +kernel
theorem d_Mo_throwNew_7 : decode b_Mo_throwNew 7 = .ok (.invokevirtual 957, 3) := by decide +kernel
theorem d_Mo_throwNew_10 : decode b_Mo_throwNew 10 = .ok (.return_, 1) := by decide +kernel
abbrev ra_Mo_throwNew (mc ms : Nat) : Room := { frames := 7, cells := mc, slots := ms, locals := 198 }
def wa_Mo_throwNew (mc ms : Nat) (y : Ly) (Post : Ly → St → Nat → Nat → Prop) (σ : St) (a0 : Nat) (v1 : Int32) (v2 : Int32) : Prop := ∃ mc_6 ms_7 : Nat, (0 + mc_6 ≤ mc ∧ 0 + ms_7 ≤ ms) ∧ wa_Mo_newFault mc_6 ms_7 y (fun (y_3 : Ly) (s_2 : St) (r_1 : Int32) (d_4 e_5 : Nat) => (0 + d_4 ≤ mc ∧ 0 + e_5 ≤ ms) ∧ ∃ mc_14 ms_15 : Nat, (0 + d_4 + mc_14 ≤ mc ∧ 0 + e_5 + ms_15 ≤ ms) ∧ wa_Mo_unwind mc_14 ms_15 y_3 (fun (y_11 : Ly) (s_10 : St) (d_12 e_13 : Nat) => (0 + d_4 + d_12 ≤ mc ∧ 0 + e_5 + e_13 ≤ ms) ∧ Post y_11 s_10 (0 + d_4 + d_12) (0 + e_5 + e_13)) s_2 a0 r_1) σ a0 v2 v1
set_option maxHeartbeats 4000000 in
set_option maxRecDepth 100000 in
theorem ca_Mo_throwNew (l : Launch) (D : va_G) (g : Nat → ClassId) (ad : Nat → Nat) (mc ms : Nat) (y : Ly) (Post : Ly → St → Nat → Nat → Prop) (σ : St) (a0 : Nat) (v1 : Int32) (v2 : Int32) (sz uz : Nat) (h_a0 : cl a0 = 14) (h : wa_Mo_throwNew mc ms y Post σ a0 v1 v2) : Met l y_Mo_throwNew (mw y_Mo_throwNew b_Mo_throwNew 3 (none)) (ra_Mo_throwNew mc ms) (PCu g D [] [.ref (ad a0), .int v1, .int v2] sz uz (ws g ad y σ)) (va_Qv (fun (u : Ly × St × Nat × Nat) => Post u.1 u.2.1 u.2.2.1 u.2.2.2) (QU D (va_A (ws g ad y σ) sz) (fun u => ws g ad u.1 u.2.1) sz uz (fun u => u.2.2.1) (fun u => u.2.2.2)) (va_A (ws g ad y σ) sz)) mc ms (va_A (ws g ad y σ) sz) := by
  refine ofVu (by decide +kernel) (Nat.le_of_ble_eq_true rfl) ?_
  intro p e s m args below meth c A Q ls H locs G hsz hP hD hS hl hret
  subst hsz
  have hl : lv_has ls 3 [(0, .ref (ad a0)), (1, .int v1), (2, .int v2)] := hl
  have hd : 0 ≤ mc ∧ 0 ≤ ms := ⟨Nat.zero_le _, Nat.zero_le _⟩
  unfold wa_Mo_throwNew at h
  refine lv_aload_n G.1 G.2.1 d_Mo_throwNew_0 rfl (lv_at hl 0 rfl) ?_
  refine lv_aload_n G.1 G.2.1 d_Mo_throwNew_1 rfl (lv_at hl 0 rfl) ?_
  refine lv_iload_n G.1 G.2.1 d_Mo_throwNew_2 rfl (lv_at hl 2 rfl) ?_
  refine lv_iload_n G.1 G.2.1 d_Mo_throwNew_3 rfl (lv_at hl 1 rfl) ?_
  obtain ⟨mc_6, ms_7, hr_8, h⟩ := h
  refine uaVi (As := [.int v2, .int v1]) (rest := [.ref (ad a0)]) G hP hD hS (ca_Mo_newFault l D g ad mc_6 ms_7 y _ σ a0 v2 v1 H.size (us H) h_a0 h) w9_Mo_newFault q3887 ⟨Nat.le_of_ble_eq_true rfl, Nat.le_of_ble_eq_true rfl⟩ rfl rfl h_a0 (q := (RMo, TMo, 131)) rfl rfl hl.1 rfl (Nat.le_of_ble_eq_true rfl) rfl hr_8 d_Mo_throwNew_4 (fun r_1 y_3 s_2 d_4 e_5 H locs h hP hD hS => ?_)
  have hl := lv_sub (l' := []) hl [] rfl
  obtain ⟨hd, h⟩ := h
  obtain ⟨mc_14, ms_15, hr_16, h⟩ := h
  refine uaVv (As := [.int r_1]) (rest := []) G hP hD hS (ca_Mo_unwind l D g ad mc_14 ms_15 y_3 _ s_2 a0 r_1 H.size (us H) h_a0 h) w9_Mo_unwind q3891 ⟨Nat.le_of_ble_eq_true rfl, Nat.le_of_ble_eq_true rfl⟩ rfl rfl h_a0 (q := (RMo, TMo, 131)) rfl rfl hl.1 rfl (Nat.le_of_ble_eq_true rfl) rfl hr_16 d_Mo_throwNew_7 (fun y_11 s_10 d_12 e_13 H locs h hP hD hS => ?_)
  obtain ⟨hd, h⟩ := h
  exact hret (y_11, s_10, 0 + d_4 + d_12, 0 + e_5 + e_13) _ _ _ _ _ ls h hP hD hS (Nat.le_refl _) (Nat.le_refl _) hd.1 hd.2 d_Mo_throwNew_10
theorem q3911 : Cond.methodLink "ClassWorksModel" 1004 y_Mo_newFrame ∈ lw_ok := lw_okmem (List.mem_of_getElem? (i := 3911) (by decide +kernel)) rfl
theorem q3914 : Cond.code y_Mo_newFrame b_Mo_newFrame 4 (none) ∈ lw_ok := lw_okmem (List.mem_of_getElem? (i := 3914) (by decide +kernel)) rfl
theorem q3913 : Cond.instanceMethod y_Mo_newFrame ∈ lw_ok := lw_okmem (List.mem_of_getElem? (i := 3913) (by decide +kernel)) rfl
theorem q267 : Cond.selects y_Mo_newFrame.cls y_Mo_newFrame y_Mo_newFrame ∈ lw_ok := lw_okmem (List.mem_of_getElem? (i := 267) (by decide +kernel)) rfl
theorem w9_Mo_newFrame : CWv y_Mo_newFrame b_Mo_newFrame 4 (none) 1 ∧ Cond.instanceMethod y_Mo_newFrame ∈ lw_ok ∧ Cond.selects y_Mo_newFrame.cls y_Mo_newFrame y_Mo_newFrame ∈ lw_ok := ⟨⟨q3914, q348, by decide +kernel, by decide +kernel, by decide +kernel⟩, q3913, q267⟩
theorem q3883 : Cond.methodLink "ClassWorksModel" 1001 y_Mo_throwNew ∈ lw_ok := lw_okmem (List.mem_of_getElem? (i := 3883) (by decide +kernel)) rfl
theorem q3886 : Cond.code y_Mo_throwNew b_Mo_throwNew 3 (none) ∈ lw_ok := lw_okmem (List.mem_of_getElem? (i := 3886) (by decide +kernel)) rfl
theorem q3885 : Cond.instanceMethod y_Mo_throwNew ∈ lw_ok := lw_okmem (List.mem_of_getElem? (i := 3885) (by decide +kernel)) rfl
theorem q260 : Cond.selects y_Mo_throwNew.cls y_Mo_throwNew y_Mo_throwNew ∈ lw_ok := lw_okmem (List.mem_of_getElem? (i := 260) (by decide +kernel)) rfl
theorem w9_Mo_throwNew : CWv y_Mo_throwNew b_Mo_throwNew 3 (none) 2 ∧ Cond.instanceMethod y_Mo_throwNew ∈ lw_ok ∧ Cond.selects y_Mo_throwNew.cls y_Mo_throwNew y_Mo_throwNew ∈ lw_ok := ⟨⟨q3886, q348, by decide +kernel, by decide +kernel, by decide +kernel⟩, q3885, q260⟩
theorem q3875 : Cond.methodLink "ClassWorksModel" 998 y_Mo_startOf ∈ lw_ok := lw_okmem (List.mem_of_getElem? (i := 3875) (by decide +kernel)) rfl
theorem q3878 : Cond.code y_Mo_startOf b_Mo_startOf 3 (some .int) ∈ lw_ok := lw_okmem (List.mem_of_getElem? (i := 3878) (by decide +kernel)) rfl
theorem q3877 : Cond.instanceMethod y_Mo_startOf ∈ lw_ok := lw_okmem (List.mem_of_getElem? (i := 3877) (by decide +kernel)) rfl
theorem q258 : Cond.selects y_Mo_startOf.cls y_Mo_startOf y_Mo_startOf ∈ lw_ok := lw_okmem (List.mem_of_getElem? (i := 258) (by decide +kernel)) rfl
theorem w9_Mo_startOf : CWv y_Mo_startOf b_Mo_startOf 3 (some .int) 1 ∧ Cond.instanceMethod y_Mo_startOf ∈ lw_ok ∧ Cond.selects y_Mo_startOf.cls y_Mo_startOf y_Mo_startOf ∈ lw_ok := ⟨⟨q3878, q348, by decide +kernel, by decide +kernel, by decide +kernel⟩, q3877, q258⟩
def y_Mo_startOn : MethodName := ⟨"ClassWorksModel", "startOn", "()I"⟩
abbrev b_Mo_startOn : ByteArray := prog_14_method_104_code
theorem d_Mo_startOn_0 : decode b_Mo_startOn 0 = .ok (.aload_n 0, 1) := by decide +kernel
theorem d_Mo_startOn_1 : decode b_Mo_startOn 1 = .ok (.getfield 917, 3) := by decide +kernel
theorem d_Mo_startOn_4 : decode b_Mo_startOn 4 = .ok (.getfield 945, 3) := by decide +kernel
theorem d_Mo_startOn_7 : decode b_Mo_startOn 7 = .ok (.iconst 1, 1) := by decide +kernel
theorem d_Mo_startOn_8 : decode b_Mo_startOn 8 = .ok (.isub, 1) := by decide +kernel
theorem d_Mo_startOn_9 : decode b_Mo_startOn 9 = .ok (.istore_n 1, 1) := by decide +kernel
theorem d_Mo_startOn_10 : decode b_Mo_startOn 10 = .ok (.iconst (-1), 1) := by decide +kernel
theorem d_Mo_startOn_11 : decode b_Mo_startOn 11 = .ok (.aload_n 0, 1) := by decide +kernel
theorem d_Mo_startOn_12 : decode b_Mo_startOn 12 = .ok (.getfield 917, 3) := by decide +kernel
theorem d_Mo_startOn_15 : decode b_Mo_startOn 15 = .ok (.getfield 942, 3) := by decide +kernel
theorem d_Mo_startOn_18 : decode b_Mo_startOn 18 = .ok (.iload_n 1, 1) := by decide +kernel
theorem d_Mo_startOn_19 : decode b_Mo_startOn 19 = .ok (.iaload, 1) := by decide +kernel
theorem d_Mo_startOn_20 : decode b_Mo_startOn 20 = .ok (.isub, 1) := by decide +kernel
theorem d_Mo_startOn_21 : decode b_Mo_startOn 21 = .ok (.istore_n 2, 1) := by decide +kernel
theorem d_Mo_startOn_22 : decode b_Mo_startOn 22 = .ok (.aload_n 0, 1) := by decide +kernel
theorem d_Mo_startOn_23 : decode b_Mo_startOn 23 = .ok (.getfield 522, 3) := by decide +kernel
theorem d_Mo_startOn_26 : decode b_Mo_startOn 26 = .ok (.getfield 429, 3) := by decide +kernel
theorem d_Mo_startOn_29 : decode b_Mo_startOn 29 = .ok (.iload_n 2, 1) := by decide +kernel
theorem d_Mo_startOn_30 : decode b_Mo_startOn 30 = .ok (.iaload, 1) := by decide +kernel
theorem d_Mo_startOn_31 : decode b_Mo_startOn 31 = .ok (.iconst 4, 1) := by decide +kernel
theorem d_Mo_startOn_32 : decode b_Mo_startOn 32 = .ok (.iand, 1) := by decide +kernel
theorem d_Mo_startOn_33 : decode b_Mo_startOn 33 = .ok (.ifCond .ne 45, 3) := by decide +kernel
theorem d_Mo_startOn_36 : decode b_Mo_startOn 36 = .ok (.aload_n 0, 1) := by decide +kernel
theorem d_Mo_startOn_37 : decode b_Mo_startOn 37 = .ok (.aload_n 0, 1) := by decide +kernel
theorem d_Mo_startOn_38 : decode b_Mo_startOn 38 = .ok (.iload_n 2, 1) := by decide +kernel
theorem d_Mo_startOn_39 : decode b_Mo_startOn 39 = .ok (.invokevirtual 725, 3) := by decide +kernel
theorem d_Mo_startOn_42 : decode b_Mo_startOn 42 = .ok (.invokevirtual 998, 3) := by decide +kernel
theorem d_Mo_startOn_45 : decode b_Mo_startOn 45 = .ok (.istore_n 3, 1) := by decide +kernel
theorem d_Mo_startOn_46 : decode b_Mo_startOn 46 = .ok (.iload_n 3, 1) := by decide +kernel
theorem d_Mo_startOn_47 : decode b_Mo_startOn 47 = .ok (.iconst 3, 1) := by decide +kernel
theorem d_Mo_startOn_48 : decode b_Mo_startOn 48 = .ok (.if_icmp .ne 15, 3) := by decide +kernel
theorem d_Mo_startOn_51 : decode b_Mo_startOn 51 = .ok (.aload_n 0, 1) := by decide +kernel
theorem d_Mo_startOn_52 : decode b_Mo_startOn 52 = .ok (.aload_n 0, 1) := by decide +kernel
theorem d_Mo_startOn_53 : decode b_Mo_startOn 53 = .ok (.getfield 844, 3) := by decide +kernel
theorem d_Mo_startOn_56 : decode b_Mo_startOn 56 = .ok (.aload_n 0, 1) := by decide +kernel
theorem d_Mo_startOn_57 : decode b_Mo_startOn 57 = .ok (.getfield 847, 3) := by decide +kernel
theorem d_Mo_startOn_60 : decode b_Mo_startOn 60 = .ok (.invokevirtual 1001, 3) := by decide +kernel
theorem d_Mo_startOn_63 : decode b_Mo_startOn 63 = .ok (.iload_n 3, 1) := by decide +kernel
theorem d_Mo_startOn_64 : decode b_Mo_startOn 64 = .ok (.ifCond .eq 14, 3) := by decide +kernel
theorem d_Mo_startOn_67 : decode b_Mo_startOn 67 = .ok (.iload_n 3, 1) := by decide +kernel
theorem d_Mo_startOn_68 : decode b_Mo_startOn 68 = .ok (.iconst 2, 1) := by decide +kernel
theorem d_Mo_startOn_69 : decode b_Mo_startOn 69 = .ok (.if_icmp .ne 7, 3) := by decide +kernel
theorem d_Mo_startOn_72 : decode b_Mo_startOn 72 = .ok (.iconst 2, 1) := by decide +kernel
theorem d_Mo_startOn_73 : decode b_Mo_startOn 73 = .ok (.goto 4, 3) := by decide +kernel
theorem d_Mo_startOn_76 : decode b_Mo_startOn 76 = .ok (.iconst 0, 1) := by decide +kernel
theorem d_Mo_startOn_77 : decode b_Mo_startOn 77 = .ok (.ireturn, 1) := by decide +kernel
theorem d_Mo_startOn_78 : decode b_Mo_startOn 78 = .ok (.aload_n 0, 1) := by decide +kernel
theorem d_Mo_startOn_79 : decode b_Mo_startOn 79 = .ok (.iload_n 2, 1) := by decide +kernel
theorem d_Mo_startOn_80 : decode b_Mo_startOn 80 = .ok (.aload_n 0, 1) := by decide +kernel
theorem d_Mo_startOn_81 : decode b_Mo_startOn 81 = .ok (.getfield 127, 3) := by decide +kernel
theorem d_Mo_startOn_84 : decode b_Mo_startOn 84 = .ok (.aload_n 0, 1) := by decide +kernel
theorem d_Mo_startOn_85 : decode b_Mo_startOn 85 = .ok (.getfield 258, 3) := by decide +kernel
theorem d_Mo_startOn_88 : decode b_Mo_startOn 88 = .ok (.invokevirtual 752, 3) := by decide +kernel
theorem d_Mo_startOn_91 : decode b_Mo_startOn 91 = .ok (.istore_n 3, 1) := by decide +kernel
theorem d_Mo_startOn_92 : decode b_Mo_startOn 92 = .ok (.iload_n 3, 1) := by decide +kernel
theorem d_Mo_startOn_93 : decode b_Mo_startOn 93 = .ok (.ifCond .ge 10, 3) := by decide +kernel
theorem d_Mo_startOn_96 : decode b_Mo_startOn 96 = .ok (.aload_n 0, 1) := by decide +kernel
theorem d_Mo_startOn_97 : decode b_Mo_startOn 97 = .ok (.iload_n 1, 1) := by decide +kernel
theorem d_Mo_startOn_98 : decode b_Mo_startOn 98 = .ok (.invokevirtual 986, 3) := by decide +kernel
theorem d_Mo_startOn_101 : decode b_Mo_startOn 101 = .ok (.iconst 0, 1) := by decide +kernel
theorem d_Mo_startOn_102 : decode b_Mo_startOn 102 = .ok (.ireturn, 1) := by decide +kernel
theorem d_Mo_startOn_103 : decode b_Mo_startOn 103 = .ok (.aload_n 0, 1) := by decide +kernel
theorem d_Mo_startOn_104 : decode b_Mo_startOn 104 = .ok (.getfield 917, 3) := by decide +kernel
theorem d_Mo_startOn_107 : decode b_Mo_startOn 107 = .ok (.getfield 948, 3) := by decide +kernel
theorem d_Mo_startOn_110 : decode b_Mo_startOn 110 = .ok (.iload_n 1, 1) := by decide +kernel
theorem d_Mo_startOn_111 : decode b_Mo_startOn 111 = .ok (.iconst 2, 1) := by decide +kernel
theorem d_Mo_startOn_112 : decode b_Mo_startOn 112 = .ok (.iastore, 1) := by decide +kernel
theorem d_Mo_startOn_113 : decode b_Mo_startOn 113 = .ok (.aload_n 0, 1) := by decide +kernel
theorem d_Mo_startOn_114 : decode b_Mo_startOn 114 = .ok (.getfield 917, 3) := by decide +kernel
theorem d_Mo_startOn_117 : decode b_Mo_startOn 117 = .ok (.getfield 924, 3) := by decide +kernel
theorem d_Mo_startOn_120 : decode b_Mo_startOn 120 = .ok (.bipush 40, 2) := by decide +kernel
theorem d_Mo_startOn_122 : decode b_Mo_startOn 122 = .ok (.if_icmp .ne 13, 3) := by decide +kernel
theorem d_Mo_startOn_125 : decode b_Mo_startOn 125 = .ok (.aload_n 0, 1) := by decide +kernel
theorem d_Mo_startOn_126 : decode b_Mo_startOn 126 = .ok (.iconst 0, 1) := by decide +kernel
theorem d_Mo_startOn_127 : decode b_Mo_startOn 127 = .ok (.bipush 8, 2) := by decide +kernel
theorem d_Mo_startOn_129 : decode b_Mo_startOn 129 = .ok (.invokevirtual 1001, 3) := by decide +kernel
theorem d_Mo_startOn_132 : decode b_Mo_startOn 132 = .ok (.goto 8, 3) := by decide +kernel
theorem d_Mo_startOn_135 : decode b_Mo_startOn 135 = .ok (.aload_n 0, 1) := by decide +kernel
theorem d_Mo_startOn_136 : decode b_Mo_startOn 136 = .ok (.iload_n 3, 1) := by decide +kernel
theorem d_Mo_startOn_137 : decode b_Mo_startOn 137 = .ok (.invokevirtual 1004, 3) := by decide +kernel
theorem d_Mo_startOn_140 : decode b_Mo_startOn 140 = .ok (.iconst 0, 1) := by decide +kernel
theorem d_Mo_startOn_141 : decode b_Mo_startOn 141 = .ok (.ireturn, 1) := by decide +kernel
abbrev ra_Mo_startOn (mc ms : Nat) : Room := { frames := 470, cells := mc, slots := ms, locals := 11432 }
def wja_Mo_startOn_140 (mc ms : Nat) (Post : Ly → St → Int32 → Nat → Nat → Prop) (a0 : Nat) (y_j140 : Ly) (s_j140 : St) (d_j140 e_j140 : Nat) : Prop := (d_j140 ≤ mc ∧ e_j140 ≤ ms) ∧ Post y_j140 s_j140 0 d_j140 e_j140
def wja_Mo_startOn_78 (mc ms : Nat) (Post : Ly → St → Int32 → Nat → Nat → Prop) (a0 : Nat) (y_j78 : Ly) (s_j78 : St) (d_j78 e_j78 : Nat) (x1j78 : Int32) (x2j78 : Int32) : Prop := (d_j78 ≤ mc ∧ e_j78 ≤ ms) ∧ wu_Mo_methodIn y_j78 (fun (s_10 : St) (r_9 : Int32) => ((0 ≤ r_9 → ∃ b_11 : Nat, sO s_10 a0 46 = some b_11 ∧ cl b_11 = 12 ∧ xS y_j78 s_10 b_11 15 x1j78 2 (fun s_14 : St => ∃ b_15 : Nat, sO s_14 a0 46 = some b_15 ∧ cl b_15 = 12 ∧ ((¬ (sV s_14 b_15 22) = 40 → wu_Mo_newFrame y_j78 (fun (s_19 : St) => wja_Mo_startOn_140 mc ms Post a0 y_j78 s_19 d_j78 e_j78) s_14 a0 r_9) ∧ ((sV s_14 b_15 22) = 40 → ∃ mc_25 ms_26 : Nat, (d_j78 + mc_25 ≤ mc ∧ e_j78 + ms_26 ≤ ms) ∧ wa_Mo_throwNew mc_25 ms_26 y_j78 (fun (y_22 : Ly) (s_21 : St) (d_23 e_24 : Nat) => (d_j78 + d_23 ≤ mc ∧ e_j78 + e_24 ≤ ms) ∧ wja_Mo_startOn_140 mc ms Post a0 y_22 s_21 (d_j78 + d_23) (e_j78 + e_24)) s_14 a0 0 8)))) ∧ (¬ (0 ≤ r_9) → wu_Mo_endStart y_j78 (fun (s_29 : St) => Post y_j78 s_29 0 d_j78 e_j78) s_10 a0 x1j78))) s_j78 a0 x2j78 (sV s_j78 a0 7) (sV s_j78 a0 38)
def wja_Mo_startOn_77 (mc ms : Nat) (Post : Ly → St → Int32 → Nat → Nat → Prop) (a0 : Nat) (y_j77 : Ly) (s_j77 : St) (d_j77 e_j77 : Nat) (z0j77 : Int32) : Prop := (d_j77 ≤ mc ∧ e_j77 ≤ ms) ∧ Post y_j77 s_j77 z0j77 d_j77 e_j77
def wja_Mo_startOn_63 (mc ms : Nat) (Post : Ly → St → Int32 → Nat → Nat → Prop) (a0 : Nat) (y_j63 : Ly) (s_j63 : St) (d_j63 e_j63 : Nat) (x1j63 : Int32) (x2j63 : Int32) (x3j63 : Int32) : Prop := (d_j63 ≤ mc ∧ e_j63 ≤ ms) ∧ ((x3j63 = 0 → wja_Mo_startOn_78 mc ms Post a0 y_j63 s_j63 d_j63 e_j63 x1j63 x2j63) ∧ (¬ (x3j63 = 0) → ((¬ x3j63 = 2 → wja_Mo_startOn_77 mc ms Post a0 y_j63 s_j63 d_j63 e_j63 0) ∧ (x3j63 = 2 → wja_Mo_startOn_77 mc ms Post a0 y_j63 s_j63 d_j63 e_j63 2))))
def wa_Mo_startOn (mc ms : Nat) (y : Ly) (Post : Ly → St → Int32 → Nat → Nat → Prop) (σ : St) (a0 : Nat) : Prop := ∃ b_1 : Nat, sO σ a0 46 = some b_1 ∧ cl b_1 = 12 ∧ xA y σ b_1 14 ((sV σ b_1 16) - 1) (fun x_4 : Int32 => ∃ b_5 : Nat, sO σ a0 45 = some b_5 ∧ cl b_5 = 13 ∧ xA y σ b_5 5 ((-1) - x_4) (fun x_8 : Int32 => ((¬ (x_8 &&& 4) = 0 → wja_Mo_startOn_78 mc ms Post a0 y σ 0 0 ((sV σ b_1 16) - 1) ((-1) - x_4)) ∧ ((x_8 &&& 4) = 0 → wu_Mo_parentOf y (fun (s_31 : St) (r_30 : Int32) => wu_Mo_startOf y (fun (s_33 : St) (r_32 : Int32) => ((¬ r_32 = 3 → wja_Mo_startOn_63 mc ms Post a0 y s_33 0 0 ((sV σ b_1 16) - 1) ((-1) - x_4) r_32) ∧ (r_32 = 3 → ∃ mc_39 ms_40 : Nat, (0 + mc_39 ≤ mc ∧ 0 + ms_40 ≤ ms) ∧ wa_Mo_throwNew mc_39 ms_40 y (fun (y_36 : Ly) (s_35 : St) (d_37 e_38 : Nat) => (0 + d_37 ≤ mc ∧ 0 + e_38 ≤ ms) ∧ wja_Mo_startOn_63 mc ms Post a0 y_36 s_35 (0 + d_37) (0 + e_38) ((sV σ b_1 16) - 1) ((-1) - x_4) r_32) s_33 a0 (sV s_33 a0 81) (sV s_33 a0 80)))) s_31 a0 r_30) σ a0 ((-1) - x_4)))))
set_option maxHeartbeats 4000000 in
set_option maxRecDepth 100000 in
theorem ca_Mo_startOn (l : Launch) (D : va_G) (g : Nat → ClassId) (ad : Nat → Nat) (mc ms : Nat) (y : Ly) (Post : Ly → St → Int32 → Nat → Nat → Prop) (σ : St) (a0 : Nat) (sz uz : Nat) (h_a0 : cl a0 = 14) (h : wa_Mo_startOn mc ms y Post σ a0) : Met l y_Mo_startOn (mw y_Mo_startOn b_Mo_startOn 4 (some .int)) (ra_Mo_startOn mc ms) (PCu g D [] [.ref (ad a0)] sz uz (ws g ad y σ)) (va_Qi (fun (r : Int32) (u : Ly × St × Nat × Nat) => Post u.1 u.2.1 r u.2.2.1 u.2.2.2) (QU D (va_A (ws g ad y σ) sz) (fun u => ws g ad u.1 u.2.1) sz uz (fun u => u.2.2.1) (fun u => u.2.2.2)) (va_A (ws g ad y σ) sz)) mc ms (va_A (ws g ad y σ) sz) := by
  refine ofIu (by decide +kernel) (Nat.le_of_ble_eq_true rfl) ?_
  intro p e s m args below meth c A Q ls H locs G hsz hP hD hS hl hret
  subst hsz
  have hl : lv_has ls 4 [(0, .ref (ad a0))] := hl
  have hd : 0 ≤ mc ∧ 0 ≤ ms := ⟨Nat.zero_le _, Nat.zero_le _⟩
  unfold wa_Mo_startOn at h
  refine lv_aload_n G.1 G.2.1 d_Mo_startOn_0 rfl (lv_at hl 0 rfl) ?_
  obtain ⟨b_1, e_2, c_3, h⟩ := h
  refine ugf (v := .ref (ad b_1)) G hP h_a0 iMo rfl 46 (by decide) rfl q3110 rfl (by show va_rf ((sO σ a0 46).map ad) = _; rw [e_2]; rfl) d_Mo_startOn_1 ?_
  refine ugfN (v := .int (sV σ b_1 16)) G hP c_3 iMr rfl 16 (by decide) rfl q3005 rfl rfl d_Mo_startOn_4 ?_
  refine lv_iconst (v := 1) G.1 G.2.1 d_Mo_startOn_7 (by decide) ?_
  refine lv_isub G.1 G.2.1 d_Mo_startOn_8 ?_
  refine lv_istore_n (lv' := [(1, .int ((sV σ b_1 16) - 1)), (0, .ref (ad a0))]) G.1 G.2.1 d_Mo_startOn_9 rfl hl (by decide) rfl (fun ls hl => ?_)
  refine lv_iconst (v := (-1)) G.1 G.2.1 d_Mo_startOn_10 (by decide) ?_
  refine lv_aload_n G.1 G.2.1 d_Mo_startOn_11 rfl (lv_at hl 1 rfl) ?_
  refine ugf (v := .ref (ad b_1)) G hP h_a0 iMo rfl 46 (by decide) rfl q3110 rfl (by show va_rf ((sO σ a0 46).map ad) = _; rw [e_2]; rfl) d_Mo_startOn_12 ?_
  refine ugfN (v := .ref (yP y b_1 14)) G hP c_3 iMr rfl 14 (by decide) rfl q3002 rfl rfl d_Mo_startOn_15 ?_
  refine lv_iload_n G.1 G.2.1 d_Mo_startOn_18 rfl (lv_at hl 0 rfl) ?_
  refine W.eq (g2 := F0 m 19 ls [.int ((sV σ b_1 16) - 1), .ref (yP y b_1 14), .int (-1)]) rfl ?_
  refine uiald G hP (kdp c_3 rfl) (typ c_3 rfl) h d_Mo_startOn_19 (fun x_4 h => ?_)
  refine lv_isub G.1 G.2.1 d_Mo_startOn_20 ?_
  refine lv_istore_n (lv' := [(2, .int ((-1) - x_4)), (1, .int ((sV σ b_1 16) - 1)), (0, .ref (ad a0))]) G.1 G.2.1 d_Mo_startOn_21 rfl hl (by decide) rfl (fun ls hl => ?_)
  refine lv_aload_n G.1 G.2.1 d_Mo_startOn_22 rfl (lv_at hl 2 rfl) ?_
  obtain ⟨b_5, e_6, c_7, h⟩ := h
  refine ugf (v := .ref (ad b_5)) G hP h_a0 iMo rfl 45 (by decide) rfl q3109 rfl (by show va_rf ((sO σ a0 45).map ad) = _; rw [e_6]; rfl) d_Mo_startOn_23 ?_
  refine ugfN (v := .ref (yP y b_5 5)) G hP c_7 iMw rfl 5 (by decide) rfl q2714 rfl rfl d_Mo_startOn_26 ?_
  refine lv_iload_n G.1 G.2.1 d_Mo_startOn_29 rfl (lv_at hl 0 rfl) ?_
  refine uiald G hP (kdp c_7 rfl) (typ c_7 rfl) h d_Mo_startOn_30 (fun x_8 h => ?_)
  refine lv_iconst (v := 4) G.1 G.2.1 d_Mo_startOn_31 (by decide) ?_
  refine lv_iand G.1 G.2.1 d_Mo_startOn_32 ?_
  have J_78 : ∀ (y_j78 : Ly) (s_j78 : St) (d_j78 e_j78 : Nat) (x1j78 : Int32) (x2j78 : Int32) (H : Heap) (locs : List Loc), wja_Mo_startOn_78 mc ms Post a0 y_j78 s_j78 d_j78 e_j78 x1j78 x2j78 → va_P D CL (ws g ad y_j78 s_j78) H → va_D A (ws g ad y_j78 s_j78) → va_S A s.heap H locs → ∀ ls, lv_has ls 4 [(0, .ref (ad a0)), (1, .int x1j78), (2, .int x2j78)] → W p l e (ra_Mo_startOn mc ms) s m args below meth c H locs d_j78 e_j78 Q (F0 m 78 ls []) := by
    intro y_j78 s_j78 d_j78 e_j78 x1j78 x2j78 H locs h hP hD hS ls hl
    unfold wja_Mo_startOn_78 at h
    obtain ⟨hd, h⟩ := h
    refine lv_aload_n G.1 G.2.1 d_Mo_startOn_78 rfl (lv_at hl 0 rfl) ?_
    refine lv_iload_n G.1 G.2.1 d_Mo_startOn_79 rfl (lv_at hl 2 rfl) ?_
    refine lv_aload_n G.1 G.2.1 d_Mo_startOn_80 rfl (lv_at hl 0 rfl) ?_
    refine ugf (v := .int (sV s_j78 a0 7)) G hP h_a0 iMo rfl 7 (by decide) rfl q3071 rfl rfl d_Mo_startOn_81 ?_
    refine lv_aload_n G.1 G.2.1 d_Mo_startOn_84 rfl (lv_at hl 0 rfl) ?_
    refine ugf (v := .int (sV s_j78 a0 38)) G hP h_a0 iMo rfl 38 (by decide) rfl q3102 rfl rfl d_Mo_startOn_85 ?_
    refine ucVi (As := [.int x2j78, .int (sV s_j78 a0 7), .int (sV s_j78 a0 38)]) (rest := []) G hP hD hS (cu_Mo_methodIn l D g ad y_j78 _ s_j78 a0 x2j78 (sV s_j78 a0 7) (sV s_j78 a0 38) H.size h_a0 h) w9_Mo_methodIn q3697 ⟨Nat.le_of_ble_eq_true rfl, Nat.le_of_ble_eq_true rfl⟩ rfl rfl h_a0 (q := (RMo, TMo, 131)) rfl rfl hl.1 rfl (Nat.le_of_ble_eq_true rfl) rfl hd d_Mo_startOn_88 (fun r_9 s_10 H locs h hP hD hS => ?_)
    refine lv_istore_n (lv' := [(3, .int r_9), (0, .ref (ad a0)), (1, .int x1j78), (2, .int x2j78)]) G.1 G.2.1 d_Mo_startOn_91 rfl hl (by decide) rfl (fun ls hl => ?_)
    refine lv_iload_n G.1 G.2.1 d_Mo_startOn_92 rfl (lv_at hl 0 rfl) ?_
    refine lv_if_ge (tgt := 103) G.1 G.2.1 d_Mo_startOn_93 (by decide) (fun c93 => ?_) (fun c93 => ?_)
    · skip
      have h := h.1 c93
      refine lv_aload_n G.1 G.2.1 d_Mo_startOn_103 rfl (lv_at hl 1 rfl) ?_
      refine W.eq (g2 := F0 m 104 ls [.ref (ad a0)]) rfl ?_
      obtain ⟨b_11, e_12, c_13, h⟩ := h
      refine ugf (v := .ref (ad b_11)) G hP h_a0 iMo rfl 46 (by decide) rfl q3110 rfl (by show va_rf ((sO s_10 a0 46).map ad) = _; rw [e_12]; rfl) d_Mo_startOn_104 ?_
      refine ugfN (v := .ref (yP y_j78 b_11 15)) G hP c_13 iMr rfl 15 (by decide) rfl q3004 rfl rfl d_Mo_startOn_107 ?_
      refine lv_iload_n G.1 G.2.1 d_Mo_startOn_110 rfl (lv_at hl 2 rfl) ?_
      refine lv_iconst (v := 2) G.1 G.2.1 d_Mo_startOn_111 (by decide) ?_
      refine uiast G hP hD hS (kdp c_13 rfl) (typ c_13 rfl) h d_Mo_startOn_112 (fun s_14 H locs h hP hD hS => ?_)
      refine lv_aload_n G.1 G.2.1 d_Mo_startOn_113 rfl (lv_at hl 1 rfl) ?_
      obtain ⟨b_15, e_16, c_17, h⟩ := h
      refine ugf (v := .ref (ad b_15)) G hP h_a0 iMo rfl 46 (by decide) rfl q3110 rfl (by show va_rf ((sO s_14 a0 46).map ad) = _; rw [e_16]; rfl) d_Mo_startOn_114 ?_
      refine ugfN (v := .int (sV s_14 b_15 22)) G hP c_17 iMr rfl 22 (by decide) rfl q3016 rfl rfl d_Mo_startOn_117 ?_
      refine lv_bipush (v := 40) G.1 G.2.1 d_Mo_startOn_120 (by decide) ?_
      have J_140 : ∀ (y_j140 : Ly) (s_j140 : St) (d_j140 e_j140 : Nat) (H : Heap) (locs : List Loc), wja_Mo_startOn_140 mc ms Post a0 y_j140 s_j140 d_j140 e_j140 → va_P D CL (ws g ad y_j140 s_j140) H → va_D A (ws g ad y_j140 s_j140) → va_S A s.heap H locs → ∀ ls, lv_has ls 4 [] → W p l e (ra_Mo_startOn mc ms) s m args below meth c H locs d_j140 e_j140 Q (F0 m 140 ls []) := by
        intro y_j140 s_j140 d_j140 e_j140 H locs h hP hD hS ls hl
        unfold wja_Mo_startOn_140 at h
        obtain ⟨hd, h⟩ := h
        refine lv_iconst (v := 0) G.1 G.2.1 d_Mo_startOn_140 (by decide) ?_
        exact hret _ (y_j140, s_j140, d_j140, e_j140) _ _ _ _ _ ls h hP hD hS (Nat.le_refl _) (Nat.le_refl _) hd.1 hd.2 d_Mo_startOn_141
      refine lv_icmp_ne (tgt := 135) G.1 G.2.1 d_Mo_startOn_122 (by decide) (fun c122 => ?_) (fun c122 => ?_)
      · skip
        have h := h.1 c122
        refine lv_aload_n G.1 G.2.1 d_Mo_startOn_135 rfl (lv_at hl 1 rfl) ?_
        refine lv_iload_n G.1 G.2.1 d_Mo_startOn_136 rfl (lv_at hl 0 rfl) ?_
        refine W.eq (g2 := F0 m 137 ls [.int r_9, .ref (ad a0)]) rfl ?_
        refine ucVv (As := [.int r_9]) (rest := []) G hP hD hS (cu_Mo_newFrame l D g ad y_j78 _ s_14 a0 r_9 H.size h_a0 h) w9_Mo_newFrame q3911 ⟨Nat.le_of_ble_eq_true rfl, Nat.le_of_ble_eq_true rfl⟩ rfl rfl h_a0 (q := (RMo, TMo, 131)) rfl rfl hl.1 rfl (Nat.le_of_ble_eq_true rfl) rfl hd d_Mo_startOn_137 (fun s_19 H locs h hP hD hS => ?_)
        exact J_140 y_j78 s_19 d_j78 e_j78 H locs h hP hD hS ls (lv_sub hl [] rfl)
      · skip
        have h := h.2 c122
        refine lv_aload_n G.1 G.2.1 d_Mo_startOn_125 rfl (lv_at hl 1 rfl) ?_
        refine lv_iconst (v := 0) G.1 G.2.1 d_Mo_startOn_126 (by decide) ?_
        refine W.eq (g2 := F0 m 127 ls [.int 0, .ref (ad a0)]) rfl ?_
        refine lv_bipush (v := 8) G.1 G.2.1 d_Mo_startOn_127 (by decide) ?_
        obtain ⟨mc_25, ms_26, hr_27, h⟩ := h
        refine uaVv (As := [.int 0, .int 8]) (rest := []) G hP hD hS (ca_Mo_throwNew l D g ad mc_25 ms_26 y_j78 _ s_14 a0 0 8 H.size (us H) h_a0 h) w9_Mo_throwNew q3883 ⟨Nat.le_of_ble_eq_true rfl, Nat.le_of_ble_eq_true rfl⟩ rfl rfl h_a0 (q := (RMo, TMo, 131)) rfl rfl hl.1 rfl (Nat.le_of_ble_eq_true rfl) rfl hr_27 d_Mo_startOn_129 (fun y_22 s_21 d_23 e_24 H locs h hP hD hS => ?_)
        have hl := lv_sub (l' := []) hl [] rfl
        obtain ⟨hd, h⟩ := h
        refine lv_goto (tgt := 140) G.1 G.2.1 d_Mo_startOn_132 (by decide) ?_
        exact J_140 y_22 s_21 (d_j78 + d_23) (e_j78 + e_24) H locs h hP hD hS ls (lv_sub hl [] rfl)
    · skip
      have h := h.2 c93
      refine lv_aload_n G.1 G.2.1 d_Mo_startOn_96 rfl (lv_at hl 1 rfl) ?_
      refine W.eq (g2 := F0 m 97 ls [.ref (ad a0)]) rfl ?_
      refine lv_iload_n G.1 G.2.1 d_Mo_startOn_97 rfl (lv_at hl 2 rfl) ?_
      refine ucVv (As := [.int x1j78]) (rest := []) G hP hD hS (cu_Mo_endStart l D g ad y_j78 _ s_10 a0 x1j78 H.size h_a0 h) w9_Mo_endStart q3919 ⟨Nat.le_of_ble_eq_true rfl, Nat.le_of_ble_eq_true rfl⟩ rfl rfl h_a0 (q := (RMo, TMo, 131)) rfl rfl hl.1 rfl (Nat.le_of_ble_eq_true rfl) rfl hd d_Mo_startOn_98 (fun s_29 H locs h hP hD hS => ?_)
      refine lv_iconst (v := 0) G.1 G.2.1 d_Mo_startOn_101 (by decide) ?_
      exact hret _ (y_j78, s_29, d_j78, e_j78) _ _ _ _ _ ls h hP hD hS (Nat.le_refl _) (Nat.le_refl _) hd.1 hd.2 d_Mo_startOn_102
  refine lv_if_ne (tgt := 78) G.1 G.2.1 d_Mo_startOn_33 (by decide) (fun c33 => ?_) (fun c33 => ?_)
  · skip
    have h := h.1 c33
    exact J_78 y σ 0 0 ((sV σ b_1 16) - 1) ((-1) - x_4) H locs h hP hD hS ls (lv_sub hl [2, 1, 0] rfl)
  · skip
    have h := h.2 c33
    refine lv_aload_n G.1 G.2.1 d_Mo_startOn_36 rfl (lv_at hl 2 rfl) ?_
    refine W.eq (g2 := F0 m 37 ls [.ref (ad a0)]) rfl ?_
    refine lv_aload_n G.1 G.2.1 d_Mo_startOn_37 rfl (lv_at hl 2 rfl) ?_
    refine lv_iload_n G.1 G.2.1 d_Mo_startOn_38 rfl (lv_at hl 0 rfl) ?_
    refine ucVi (As := [.int ((-1) - x_4)]) (rest := [.ref (ad a0)]) G hP hD hS (cu_Mo_parentOf l D g ad y _ σ a0 ((-1) - x_4) H.size h_a0 h) w9_Mo_parentOf q3689 ⟨Nat.le_of_ble_eq_true rfl, Nat.le_of_ble_eq_true rfl⟩ rfl rfl h_a0 (q := (RMo, TMo, 131)) rfl rfl hl.1 rfl (Nat.le_of_ble_eq_true rfl) rfl hd d_Mo_startOn_39 (fun r_30 s_31 H locs h hP hD hS => ?_)
    refine ucVi (As := [.int r_30]) (rest := []) G hP hD hS (cu_Mo_startOf l D g ad y _ s_31 a0 r_30 H.size h_a0 h) w9_Mo_startOf q3875 ⟨Nat.le_of_ble_eq_true rfl, Nat.le_of_ble_eq_true rfl⟩ rfl rfl h_a0 (q := (RMo, TMo, 131)) rfl rfl hl.1 rfl (Nat.le_of_ble_eq_true rfl) rfl hd d_Mo_startOn_42 (fun r_32 s_33 H locs h hP hD hS => ?_)
    refine lv_istore_n (lv' := [(3, .int r_32), (2, .int ((-1) - x_4)), (1, .int ((sV σ b_1 16) - 1)), (0, .ref (ad a0))]) G.1 G.2.1 d_Mo_startOn_45 rfl hl (by decide) rfl (fun ls hl => ?_)
    refine lv_iload_n G.1 G.2.1 d_Mo_startOn_46 rfl (lv_at hl 0 rfl) ?_
    refine lv_iconst (v := 3) G.1 G.2.1 d_Mo_startOn_47 (by decide) ?_
    have J_63 : ∀ (y_j63 : Ly) (s_j63 : St) (d_j63 e_j63 : Nat) (x1j63 : Int32) (x2j63 : Int32) (x3j63 : Int32) (H : Heap) (locs : List Loc), wja_Mo_startOn_63 mc ms Post a0 y_j63 s_j63 d_j63 e_j63 x1j63 x2j63 x3j63 → va_P D CL (ws g ad y_j63 s_j63) H → va_D A (ws g ad y_j63 s_j63) → va_S A s.heap H locs → ∀ ls, lv_has ls 4 [(0, .ref (ad a0)), (1, .int x1j63), (2, .int x2j63), (3, .int x3j63)] → W p l e (ra_Mo_startOn mc ms) s m args below meth c H locs d_j63 e_j63 Q (F0 m 63 ls []) := by
      intro y_j63 s_j63 d_j63 e_j63 x1j63 x2j63 x3j63 H locs h hP hD hS ls hl
      unfold wja_Mo_startOn_63 at h
      obtain ⟨hd, h⟩ := h
      refine lv_iload_n G.1 G.2.1 d_Mo_startOn_63 rfl (lv_at hl 3 rfl) ?_
      refine lv_if_eq (tgt := 78) G.1 G.2.1 d_Mo_startOn_64 (by decide) (fun c64 => ?_) (fun c64 => ?_)
      · skip
        have h := h.1 c64
        exact J_78 y_j63 s_j63 d_j63 e_j63 x1j63 x2j63 H locs h hP hD hS ls (lv_sub hl [0, 1, 2] rfl)
      · skip
        have h := h.2 c64
        refine lv_iload_n G.1 G.2.1 d_Mo_startOn_67 rfl (lv_at hl 3 rfl) ?_
        refine lv_iconst (v := 2) G.1 G.2.1 d_Mo_startOn_68 (by decide) ?_
        have J_77 : ∀ (y_j77 : Ly) (s_j77 : St) (d_j77 e_j77 : Nat) (z0j77 : Int32) (H : Heap) (locs : List Loc), wja_Mo_startOn_77 mc ms Post a0 y_j77 s_j77 d_j77 e_j77 z0j77 → va_P D CL (ws g ad y_j77 s_j77) H → va_D A (ws g ad y_j77 s_j77) → va_S A s.heap H locs → ∀ ls, lv_has ls 4 [] → W p l e (ra_Mo_startOn mc ms) s m args below meth c H locs d_j77 e_j77 Q (F0 m 77 ls [.int z0j77]) := by
          intro y_j77 s_j77 d_j77 e_j77 z0j77 H locs h hP hD hS ls hl
          unfold wja_Mo_startOn_77 at h
          obtain ⟨hd, h⟩ := h
          exact hret _ (y_j77, s_j77, d_j77, e_j77) _ _ _ _ _ ls h hP hD hS (Nat.le_refl _) (Nat.le_refl _) hd.1 hd.2 d_Mo_startOn_77
        refine lv_icmp_ne (tgt := 76) G.1 G.2.1 d_Mo_startOn_69 (by decide) (fun c69 => ?_) (fun c69 => ?_)
        · skip
          have h := h.1 c69
          refine lv_iconst (v := 0) G.1 G.2.1 d_Mo_startOn_76 (by decide) ?_
          exact J_77 y_j63 s_j63 d_j63 e_j63 0 H locs h hP hD hS ls (lv_sub hl [] rfl)
        · skip
          have h := h.2 c69
          refine lv_iconst (v := 2) G.1 G.2.1 d_Mo_startOn_72 (by decide) ?_
          refine lv_goto (tgt := 77) G.1 G.2.1 d_Mo_startOn_73 (by decide) ?_
          exact J_77 y_j63 s_j63 d_j63 e_j63 2 H locs h hP hD hS ls (lv_sub hl [] rfl)
    refine lv_icmp_ne (tgt := 63) G.1 G.2.1 d_Mo_startOn_48 (by decide) (fun c48 => ?_) (fun c48 => ?_)
    · skip
      have h := h.1 c48
      exact J_63 y s_33 0 0 ((sV σ b_1 16) - 1) ((-1) - x_4) r_32 H locs h hP hD hS ls (lv_sub hl [3, 2, 1, 0] rfl)
    · skip
      have h := h.2 c48
      refine lv_aload_n G.1 G.2.1 d_Mo_startOn_51 rfl (lv_at hl 3 rfl) ?_
      refine lv_aload_n G.1 G.2.1 d_Mo_startOn_52 rfl (lv_at hl 3 rfl) ?_
      refine ugf (v := .int (sV s_33 a0 81)) G hP h_a0 iMo rfl 81 (by decide) rfl q3145 rfl rfl d_Mo_startOn_53 ?_
      refine lv_aload_n G.1 G.2.1 d_Mo_startOn_56 rfl (lv_at hl 3 rfl) ?_
      refine W.eq (g2 := F0 m 57 ls [.ref (ad a0), .int (sV s_33 a0 81), .ref (ad a0)]) rfl ?_
      refine ugf (v := .int (sV s_33 a0 80)) G hP h_a0 iMo rfl 80 (by decide) rfl q3144 rfl rfl d_Mo_startOn_57 ?_
      obtain ⟨mc_39, ms_40, hr_41, h⟩ := h
      refine uaVv (As := [.int (sV s_33 a0 81), .int (sV s_33 a0 80)]) (rest := []) G hP hD hS (ca_Mo_throwNew l D g ad mc_39 ms_40 y _ s_33 a0 (sV s_33 a0 81) (sV s_33 a0 80) H.size (us H) h_a0 h) w9_Mo_throwNew q3883 ⟨Nat.le_of_ble_eq_true rfl, Nat.le_of_ble_eq_true rfl⟩ rfl rfl h_a0 (q := (RMo, TMo, 131)) rfl rfl hl.1 rfl (Nat.le_of_ble_eq_true rfl) rfl hr_41 d_Mo_startOn_60 (fun y_36 s_35 d_37 e_38 H locs h hP hD hS => ?_)
      obtain ⟨hd, h⟩ := h
      exact J_63 y_36 s_35 (0 + d_37) (0 + e_38) ((sV σ b_1 16) - 1) ((-1) - x_4) r_32 H locs h hP hD hS ls (lv_sub hl [3, 2, 1, 0] rfl)
def y_Mo_fieldByFaces : MethodName := ⟨"ClassWorksModel", "fieldByFaces", "(III)I"⟩
abbrev b_Mo_fieldByFaces : ByteArray := prog_14_method_82_code
theorem q3146 : Cond.fieldLink "ClassWorksModel" 853 "ClassWorksModel" "fieldSeen" "J" ∈ lw_ok := lw_okmem (List.mem_of_getElem? (i := 3146) (by decide +kernel)) rfl
theorem q3935 : Cond.methodLink "ClassWorksModel" 856 y_Mo_fieldByFaces ∈ lw_ok := lw_okmem (List.mem_of_getElem? (i := 3935) (by decide +kernel)) rfl
theorem q3938 : Cond.code y_Mo_fieldByFaces b_Mo_fieldByFaces 7 (some .int) ∈ lw_ok := lw_okmem (List.mem_of_getElem? (i := 3938) (by decide +kernel)) rfl
theorem q3937 : Cond.instanceMethod y_Mo_fieldByFaces ∈ lw_ok := lw_okmem (List.mem_of_getElem? (i := 3937) (by decide +kernel)) rfl
theorem q273 : Cond.selects y_Mo_fieldByFaces.cls y_Mo_fieldByFaces y_Mo_fieldByFaces ∈ lw_ok := lw_okmem (List.mem_of_getElem? (i := 273) (by decide +kernel)) rfl
theorem w9_Mo_fieldByFaces : CWv y_Mo_fieldByFaces b_Mo_fieldByFaces 7 (some .int) 3 ∧ Cond.instanceMethod y_Mo_fieldByFaces ∈ lw_ok ∧ Cond.selects y_Mo_fieldByFaces.cls y_Mo_fieldByFaces y_Mo_fieldByFaces ∈ lw_ok := ⟨⟨q3938, q348, by decide +kernel, by decide +kernel, by decide +kernel⟩, q3937, q273⟩
theorem d_Mo_fieldByFaces_0 : decode b_Mo_fieldByFaces 0 = .ok (.aload_n 0, 1) := by decide +kernel
theorem d_Mo_fieldByFaces_1 : decode b_Mo_fieldByFaces 1 = .ok (.getfield 853, 3) := by decide +kernel
theorem d_Mo_fieldByFaces_4 : decode b_Mo_fieldByFaces 4 = .ok (.iload_n 1, 1) := by decide +kernel
theorem d_Mo_fieldByFaces_5 : decode b_Mo_fieldByFaces 5 = .ok (.lshr, 1) := by decide +kernel
theorem d_Mo_fieldByFaces_6 : decode b_Mo_fieldByFaces 6 = .ok (.lconst 1, 1) := by decide +kernel
theorem d_Mo_fieldByFaces_7 : decode b_Mo_fieldByFaces 7 = .ok (.land, 1) := by decide +kernel
theorem d_Mo_fieldByFaces_8 : decode b_Mo_fieldByFaces 8 = .ok (.lconst 1, 1) := by decide +kernel
theorem d_Mo_fieldByFaces_9 : decode b_Mo_fieldByFaces 9 = .ok (.lcmp, 1) := by decide +kernel
theorem d_Mo_fieldByFaces_10 : decode b_Mo_fieldByFaces 10 = .ok (.ifCond .ne 5, 3) := by decide +kernel
theorem d_Mo_fieldByFaces_13 : decode b_Mo_fieldByFaces 13 = .ok (.iconst (-1), 1) := by decide +kernel
theorem d_Mo_fieldByFaces_14 : decode b_Mo_fieldByFaces 14 = .ok (.ireturn, 1) := by decide +kernel
theorem d_Mo_fieldByFaces_15 : decode b_Mo_fieldByFaces 15 = .ok (.aload_n 0, 1) := by decide +kernel
theorem d_Mo_fieldByFaces_16 : decode b_Mo_fieldByFaces 16 = .ok (.dup, 1) := by decide +kernel
theorem d_Mo_fieldByFaces_17 : decode b_Mo_fieldByFaces 17 = .ok (.getfield 853, 3) := by decide +kernel
theorem d_Mo_fieldByFaces_20 : decode b_Mo_fieldByFaces 20 = .ok (.lconst 1, 1) := by decide +kernel
theorem d_Mo_fieldByFaces_21 : decode b_Mo_fieldByFaces 21 = .ok (.iload_n 1, 1) := by decide +kernel
theorem d_Mo_fieldByFaces_22 : decode b_Mo_fieldByFaces 22 = .ok (.lshl, 1) := by decide +kernel
theorem d_Mo_fieldByFaces_23 : decode b_Mo_fieldByFaces 23 = .ok (.lor, 1) := by decide +kernel
theorem d_Mo_fieldByFaces_24 : decode b_Mo_fieldByFaces 24 = .ok (.putfield 853, 3) := by decide +kernel
theorem d_Mo_fieldByFaces_27 : decode b_Mo_fieldByFaces 27 = .ok (.bipush 8, 2) := by decide +kernel
theorem d_Mo_fieldByFaces_29 : decode b_Mo_fieldByFaces 29 = .ok (.iload_n 1, 1) := by decide +kernel
theorem d_Mo_fieldByFaces_30 : decode b_Mo_fieldByFaces 30 = .ok (.imul, 1) := by decide +kernel
theorem d_Mo_fieldByFaces_31 : decode b_Mo_fieldByFaces 31 = .ok (.istore 4, 2) := by decide +kernel
theorem d_Mo_fieldByFaces_33 : decode b_Mo_fieldByFaces 33 = .ok (.iload 4, 2) := by decide +kernel
theorem d_Mo_fieldByFaces_35 : decode b_Mo_fieldByFaces 35 = .ok (.bipush 8, 2) := by decide +kernel
theorem d_Mo_fieldByFaces_37 : decode b_Mo_fieldByFaces 37 = .ok (.iload_n 1, 1) := by decide +kernel
theorem d_Mo_fieldByFaces_38 : decode b_Mo_fieldByFaces 38 = .ok (.imul, 1) := by decide +kernel
theorem d_Mo_fieldByFaces_39 : decode b_Mo_fieldByFaces 39 = .ok (.aload_n 0, 1) := by decide +kernel
theorem d_Mo_fieldByFaces_40 : decode b_Mo_fieldByFaces 40 = .ok (.getfield 522, 3) := by decide +kernel
theorem d_Mo_fieldByFaces_43 : decode b_Mo_fieldByFaces 43 = .ok (.getfield 435, 3) := by decide +kernel
theorem d_Mo_fieldByFaces_46 : decode b_Mo_fieldByFaces 46 = .ok (.iload_n 1, 1) := by decide +kernel
theorem d_Mo_fieldByFaces_47 : decode b_Mo_fieldByFaces 47 = .ok (.iaload, 1) := by decide +kernel
theorem d_Mo_fieldByFaces_48 : decode b_Mo_fieldByFaces 48 = .ok (.iadd, 1) := by decide +kernel
theorem d_Mo_fieldByFaces_49 : decode b_Mo_fieldByFaces 49 = .ok (.if_icmp .ge 40, 3) := by decide +kernel
theorem d_Mo_fieldByFaces_52 : decode b_Mo_fieldByFaces 52 = .ok (.aload_n 0, 1) := by decide +kernel
theorem d_Mo_fieldByFaces_53 : decode b_Mo_fieldByFaces 53 = .ok (.getfield 522, 3) := by decide +kernel
theorem d_Mo_fieldByFaces_56 : decode b_Mo_fieldByFaces 56 = .ok (.getfield 621, 3) := by decide +kernel
theorem d_Mo_fieldByFaces_59 : decode b_Mo_fieldByFaces 59 = .ok (.iload 4, 2) := by decide +kernel
theorem d_Mo_fieldByFaces_61 : decode b_Mo_fieldByFaces 61 = .ok (.iaload, 1) := by decide +kernel
theorem d_Mo_fieldByFaces_62 : decode b_Mo_fieldByFaces 62 = .ok (.iload_n 2, 1) := by decide +kernel
theorem d_Mo_fieldByFaces_63 : decode b_Mo_fieldByFaces 63 = .ok (.if_icmp .ne 20, 3) := by decide +kernel
theorem d_Mo_fieldByFaces_66 : decode b_Mo_fieldByFaces 66 = .ok (.aload_n 0, 1) := by decide +kernel
theorem d_Mo_fieldByFaces_67 : decode b_Mo_fieldByFaces 67 = .ok (.getfield 522, 3) := by decide +kernel
theorem d_Mo_fieldByFaces_70 : decode b_Mo_fieldByFaces 70 = .ok (.getfield 624, 3) := by decide +kernel
theorem d_Mo_fieldByFaces_73 : decode b_Mo_fieldByFaces 73 = .ok (.iload 4, 2) := by decide +kernel
theorem d_Mo_fieldByFaces_75 : decode b_Mo_fieldByFaces 75 = .ok (.iaload, 1) := by decide +kernel
theorem d_Mo_fieldByFaces_76 : decode b_Mo_fieldByFaces 76 = .ok (.iload_n 3, 1) := by decide +kernel
theorem d_Mo_fieldByFaces_77 : decode b_Mo_fieldByFaces 77 = .ok (.if_icmp .ne 6, 3) := by decide +kernel
theorem d_Mo_fieldByFaces_80 : decode b_Mo_fieldByFaces 80 = .ok (.iload 4, 2) := by decide +kernel
theorem d_Mo_fieldByFaces_82 : decode b_Mo_fieldByFaces 82 = .ok (.ireturn, 1) := by decide +kernel
theorem d_Mo_fieldByFaces_83 : decode b_Mo_fieldByFaces 83 = .ok (.iinc 4 1, 3) := by decide +kernel
theorem d_Mo_fieldByFaces_86 : decode b_Mo_fieldByFaces 86 = .ok (.goto (-53), 3) := by decide +kernel
theorem d_Mo_fieldByFaces_89 : decode b_Mo_fieldByFaces 89 = .ok (.iconst 0, 1) := by decide +kernel
theorem d_Mo_fieldByFaces_90 : decode b_Mo_fieldByFaces 90 = .ok (.istore 4, 2) := by decide +kernel
theorem d_Mo_fieldByFaces_92 : decode b_Mo_fieldByFaces 92 = .ok (.iload 4, 2) := by decide +kernel
theorem d_Mo_fieldByFaces_94 : decode b_Mo_fieldByFaces 94 = .ok (.aload_n 0, 1) := by decide +kernel
theorem d_Mo_fieldByFaces_95 : decode b_Mo_fieldByFaces 95 = .ok (.getfield 522, 3) := by decide +kernel
theorem d_Mo_fieldByFaces_98 : decode b_Mo_fieldByFaces 98 = .ok (.getfield 432, 3) := by decide +kernel
theorem d_Mo_fieldByFaces_101 : decode b_Mo_fieldByFaces 101 = .ok (.iload_n 1, 1) := by decide +kernel
theorem d_Mo_fieldByFaces_102 : decode b_Mo_fieldByFaces 102 = .ok (.iaload, 1) := by decide +kernel
theorem d_Mo_fieldByFaces_103 : decode b_Mo_fieldByFaces 103 = .ok (.if_icmp .ge 56, 3) := by decide +kernel
theorem d_Mo_fieldByFaces_106 : decode b_Mo_fieldByFaces 106 = .ok (.aload_n 0, 1) := by decide +kernel
theorem d_Mo_fieldByFaces_107 : decode b_Mo_fieldByFaces 107 = .ok (.aload_n 0, 1) := by decide +kernel
theorem d_Mo_fieldByFaces_108 : decode b_Mo_fieldByFaces 108 = .ok (.getfield 522, 3) := by decide +kernel
theorem d_Mo_fieldByFaces_111 : decode b_Mo_fieldByFaces 111 = .ok (.getfield 612, 3) := by decide +kernel
theorem d_Mo_fieldByFaces_114 : decode b_Mo_fieldByFaces 114 = .ok (.iconst 4, 1) := by decide +kernel
theorem d_Mo_fieldByFaces_115 : decode b_Mo_fieldByFaces 115 = .ok (.iload_n 1, 1) := by decide +kernel
theorem d_Mo_fieldByFaces_116 : decode b_Mo_fieldByFaces 116 = .ok (.imul, 1) := by decide +kernel
theorem d_Mo_fieldByFaces_117 : decode b_Mo_fieldByFaces 117 = .ok (.iload 4, 2) := by decide +kernel
theorem d_Mo_fieldByFaces_119 : decode b_Mo_fieldByFaces 119 = .ok (.iadd, 1) := by decide +kernel
theorem d_Mo_fieldByFaces_120 : decode b_Mo_fieldByFaces 120 = .ok (.iaload, 1) := by decide +kernel
theorem d_Mo_fieldByFaces_121 : decode b_Mo_fieldByFaces 121 = .ok (.invokevirtual 601, 3) := by decide +kernel
theorem d_Mo_fieldByFaces_124 : decode b_Mo_fieldByFaces 124 = .ok (.istore 5, 2) := by decide +kernel
theorem d_Mo_fieldByFaces_126 : decode b_Mo_fieldByFaces 126 = .ok (.iload 5, 2) := by decide +kernel
theorem d_Mo_fieldByFaces_128 : decode b_Mo_fieldByFaces 128 = .ok (.ifCond .lt 14, 3) := by decide +kernel
theorem d_Mo_fieldByFaces_131 : decode b_Mo_fieldByFaces 131 = .ok (.aload_n 0, 1) := by decide +kernel
theorem d_Mo_fieldByFaces_132 : decode b_Mo_fieldByFaces 132 = .ok (.iload 5, 2) := by decide +kernel
theorem d_Mo_fieldByFaces_134 : decode b_Mo_fieldByFaces 134 = .ok (.iload_n 2, 1) := by decide +kernel
theorem d_Mo_fieldByFaces_135 : decode b_Mo_fieldByFaces 135 = .ok (.iload_n 3, 1) := by decide +kernel
theorem d_Mo_fieldByFaces_136 : decode b_Mo_fieldByFaces 136 = .ok (.invokevirtual 856, 3) := by decide +kernel
theorem d_Mo_fieldByFaces_139 : decode b_Mo_fieldByFaces 139 = .ok (.goto 4, 3) := by decide +kernel
theorem d_Mo_fieldByFaces_142 : decode b_Mo_fieldByFaces 142 = .ok (.iconst (-1), 1) := by decide +kernel
theorem d_Mo_fieldByFaces_143 : decode b_Mo_fieldByFaces 143 = .ok (.istore 6, 2) := by decide +kernel
theorem d_Mo_fieldByFaces_145 : decode b_Mo_fieldByFaces 145 = .ok (.iload 6, 2) := by decide +kernel
theorem d_Mo_fieldByFaces_147 : decode b_Mo_fieldByFaces 147 = .ok (.ifCond .lt 6, 3) := by decide +kernel
theorem d_Mo_fieldByFaces_150 : decode b_Mo_fieldByFaces 150 = .ok (.iload 6, 2) := by decide +kernel
theorem d_Mo_fieldByFaces_152 : decode b_Mo_fieldByFaces 152 = .ok (.ireturn, 1) := by decide +kernel
theorem d_Mo_fieldByFaces_153 : decode b_Mo_fieldByFaces 153 = .ok (.iinc 4 1, 3) := by decide +kernel
theorem d_Mo_fieldByFaces_156 : decode b_Mo_fieldByFaces 156 = .ok (.goto (-64), 3) := by decide +kernel
theorem d_Mo_fieldByFaces_159 : decode b_Mo_fieldByFaces 159 = .ok (.iconst (-1), 1) := by decide +kernel
theorem d_Mo_fieldByFaces_160 : decode b_Mo_fieldByFaces 160 = .ok (.ireturn, 1) := by decide +kernel
abbrev rf_Mo_fieldByFaces (rr : Room) : Room := { frames := rr.frames + 1, cells := 0, slots := 0, locals := rr.locals + 26 }
def wj_Mo_fieldByFaces_143 (rec : Ly → (St → Int32 → Prop) → St → Nat → Int32 → Int32 → Int32 → Prop) (y : Ly) (Post : St → Int32 → Prop) (K_92 : St → Int32 → Int32 → Int32 → Int32 → Prop) (a0 : Nat) (s_j143 : St) (x1j143 : Int32) (x2j143 : Int32) (x3j143 : Int32) (x4j143 : Int32) (z0j143 : Int32) : Prop := ((z0j143 < 0 → K_92 s_j143 x1j143 x2j143 x3j143 (x4j143 + 1)) ∧ (¬ (z0j143 < 0) → Post s_j143 z0j143))
def wb_Mo_fieldByFaces_92 (rec : Ly → (St → Int32 → Prop) → St → Nat → Int32 → Int32 → Int32 → Prop) (y : Ly) (Post : St → Int32 → Prop) (K_92 : St → Int32 → Int32 → Int32 → Int32 → Prop) (a0 : Nat) (s_h92 : St) (x1h92 : Int32) (x2h92 : Int32) (x3h92 : Int32) (x4h92 : Int32) : Prop := ∃ b_6 : Nat, sO s_h92 a0 45 = some b_6 ∧ cl b_6 = 13 ∧ xA y s_h92 b_6 7 x1h92 (fun x_9 : Int32 => ((x_9 ≤ x4h92 → Post s_h92 (-1)) ∧ (¬ (x_9 ≤ x4h92) → xA y s_h92 b_6 6 ((4 * x1h92) + x4h92) (fun x_10 : Int32 => wu_Mo_classOf y (fun (s_12 : St) (r_11 : Int32) => ((r_11 < 0 → wj_Mo_fieldByFaces_143 rec y Post K_92 a0 s_12 x1h92 x2h92 x3h92 x4h92 (-1)) ∧ (¬ (r_11 < 0) → rec y (fun (s_14 : St) (r_13 : Int32) => wj_Mo_fieldByFaces_143 rec y Post K_92 a0 s_14 x1h92 x2h92 x3h92 x4h92 r_13) s_12 a0 r_11 x2h92 x3h92))) s_h92 a0 x_10))))
def wl_Mo_fieldByFaces_92 (rec : Ly → (St → Int32 → Prop) → St → Nat → Int32 → Int32 → Int32 → Prop) (y : Ly) (Post : St → Int32 → Prop) (a0 : Nat) (s_h92 : St) (x1h92 : Int32) (x2h92 : Int32) (x3h92 : Int32) (x4h92 : Int32) : Prop := ∃ (I : St → Int32 → Int32 → Int32 → Int32 → Prop) (μ : St → Int32 → Int32 → Int32 → Int32 → Nat), I s_h92 x1h92 x2h92 x3h92 x4h92 ∧ ∀ (u : St) (t0 : Int32) (t1 : Int32) (t2 : Int32) (t3 : Int32), I u t0 t1 t2 t3 → wb_Mo_fieldByFaces_92 rec y Post (fun z t0q t1q t2q t3q => I z t0q t1q t2q t3q ∧ μ z t0q t1q t2q t3q < μ u t0 t1 t2 t3) a0 u t0 t1 t2 t3
def wj_Mo_fieldByFaces_83 (rec : Ly → (St → Int32 → Prop) → St → Nat → Int32 → Int32 → Int32 → Prop) (y : Ly) (Post : St → Int32 → Prop) (K_33 : St → Int32 → Int32 → Int32 → Int32 → Prop) (a0 : Nat) (s_j83 : St) (x1j83 : Int32) (x2j83 : Int32) (x3j83 : Int32) (x4j83 : Int32) : Prop := K_33 s_j83 x1j83 x2j83 x3j83 (x4j83 + 1)
def wb_Mo_fieldByFaces_33 (rec : Ly → (St → Int32 → Prop) → St → Nat → Int32 → Int32 → Int32 → Prop) (y : Ly) (Post : St → Int32 → Prop) (K_33 : St → Int32 → Int32 → Int32 → Int32 → Prop) (a0 : Nat) (s_h33 : St) (x1h33 : Int32) (x2h33 : Int32) (x3h33 : Int32) (x4h33 : Int32) : Prop := ∃ b_2 : Nat, sO s_h33 a0 45 = some b_2 ∧ cl b_2 = 13 ∧ xA y s_h33 b_2 8 x1h33 (fun x_5 : Int32 => ((((8 * x1h33) + x_5) ≤ x4h33 → wl_Mo_fieldByFaces_92 rec y Post a0 s_h33 x1h33 x2h33 x3h33 0) ∧ (¬ (((8 * x1h33) + x_5) ≤ x4h33) → xA y s_h33 b_2 12 x4h33 (fun x_15 : Int32 => ((¬ x_15 = x2h33 → wj_Mo_fieldByFaces_83 rec y Post K_33 a0 s_h33 x1h33 x2h33 x3h33 x4h33) ∧ (x_15 = x2h33 → xA y s_h33 b_2 13 x4h33 (fun x_16 : Int32 => ((¬ x_16 = x3h33 → wj_Mo_fieldByFaces_83 rec y Post K_33 a0 s_h33 x1h33 x2h33 x3h33 x4h33) ∧ (x_16 = x3h33 → Post s_h33 x4h33)))))))))
def wl_Mo_fieldByFaces_33 (rec : Ly → (St → Int32 → Prop) → St → Nat → Int32 → Int32 → Int32 → Prop) (y : Ly) (Post : St → Int32 → Prop) (a0 : Nat) (s_h33 : St) (x1h33 : Int32) (x2h33 : Int32) (x3h33 : Int32) (x4h33 : Int32) : Prop := ∃ (I : St → Int32 → Int32 → Int32 → Int32 → Prop) (μ : St → Int32 → Int32 → Int32 → Int32 → Nat), I s_h33 x1h33 x2h33 x3h33 x4h33 ∧ ∀ (u : St) (t0 : Int32) (t1 : Int32) (t2 : Int32) (t3 : Int32), I u t0 t1 t2 t3 → wb_Mo_fieldByFaces_33 rec y Post (fun z t0q t1q t2q t3q => I z t0q t1q t2q t3q ∧ μ z t0q t1q t2q t3q < μ u t0 t1 t2 t3) a0 u t0 t1 t2 t3
def wf_Mo_fieldByFaces (rec : Ly → (St → Int32 → Prop) → St → Nat → Int32 → Int32 → Int32 → Prop) (y : Ly) (Post : St → Int32 → Prop) (σ : St) (a0 : Nat) (v1 : Int32) (v2 : Int32) (v3 : Int32) : Prop := ((¬ (lg_cmp (((sJ σ a0 82) >>> (v1.toInt64 &&& 63)) &&& 1) 1) = 0 → xP (uJ σ a0 82 ((sJ σ a0 82) ||| (1 <<< (v1.toInt64 &&& 63)))) (fun s_1 : St => wl_Mo_fieldByFaces_33 rec y Post a0 s_1 v1 v2 v3 (8 * v1))) ∧ ((lg_cmp (((sJ σ a0 82) >>> (v1.toInt64 &&& 63)) &&& 1) 1) = 0 → Post σ (-1)))
set_option maxHeartbeats 4000000 in
set_option maxRecDepth 100000 in
theorem cf_Mo_fieldByFaces (l : Launch) (D : va_G) (g : Nat → ClassId) (ad : Nat → Nat) (rec : Ly → (St → Int32 → Prop) → St → Nat → Int32 → Int32 → Int32 → Prop) (rr : Room) (hrr : rr.cells = 0 ∧ rr.slots = 0) (hrec : ∀ (y : Ly) (Post : St → Int32 → Prop) (σ : St) (a0 : Nat) (v1 : Int32) (v2 : Int32) (v3 : Int32) (sz : Nat) (_ : cl a0 = 14) (_ : rec y Post σ a0 v1 v2 v3), Met l y_Mo_fieldByFaces (mw y_Mo_fieldByFaces b_Mo_fieldByFaces 7 (some .int)) rr (PC g D [] [.ref (ad a0), .int v1, .int v2, .int v3] sz (ws g ad y σ)) (va_Qi (fun (r : Int32) (u : St) => Post u r) (QW D (va_A (ws g ad y σ) sz) (fun u => ws g ad y u)) (va_A (ws g ad y σ) sz)) 0 0 (va_A (ws g ad y σ) sz)) (y : Ly) (Post : St → Int32 → Prop) (σ : St) (a0 : Nat) (v1 : Int32) (v2 : Int32) (v3 : Int32) (sz : Nat) (h_a0 : cl a0 = 14) (h : wf_Mo_fieldByFaces rec y Post σ a0 v1 v2 v3) : Met l y_Mo_fieldByFaces (mw y_Mo_fieldByFaces b_Mo_fieldByFaces 7 (some .int)) (rf_Mo_fieldByFaces rr) (PC g D [] [.ref (ad a0), .int v1, .int v2, .int v3] sz (ws g ad y σ)) (va_Qi (fun (r : Int32) (u : St) => Post u r) (QW D (va_A (ws g ad y σ) sz) (fun u => ws g ad y u)) (va_A (ws g ad y σ) sz)) 0 0 (va_A (ws g ad y σ) sz) := by
  refine ofI (by decide +kernel) (Nat.le_of_ble_eq_true rfl) ?_
  intro p e s m args below meth c A Q ls H locs G hsz hP hD hS hl hret
  subst hsz
  have hl : lv_has ls 7 [(0, .ref (ad a0)), (1, .int v1), (2, .int v2), (3, .int v3)] := hl
  unfold wf_Mo_fieldByFaces at h
  refine lv_aload_n G.1 G.2.1 d_Mo_fieldByFaces_0 rfl (lv_at hl 0 rfl) ?_
  refine ugf (v := .long (sJ σ a0 82)) G hP h_a0 iMo rfl 82 (by decide) rfl q3146 rfl rfl d_Mo_fieldByFaces_1 ?_
  refine lv_iload_n G.1 G.2.1 d_Mo_fieldByFaces_4 rfl (lv_at hl 1 rfl) ?_
  refine lv_lshr G.1 G.2.1 d_Mo_fieldByFaces_5 rfl ?_
  refine lv_lconst (v := 1) G.1 G.2.1 d_Mo_fieldByFaces_6 (by decide) ?_
  refine lv_land G.1 G.2.1 d_Mo_fieldByFaces_7 ?_
  refine lv_lconst (v := 1) G.1 G.2.1 d_Mo_fieldByFaces_8 (by decide) ?_
  refine W.lcmp G.1 G.2.1 d_Mo_fieldByFaces_9 ?_
  refine lv_if_ne (tgt := 15) G.1 G.2.1 d_Mo_fieldByFaces_10 (by decide) (fun c10 => ?_) (fun c10 => ?_)
  · skip
    have h := h.1 c10
    refine lv_aload_n G.1 G.2.1 d_Mo_fieldByFaces_15 rfl (lv_at hl 0 rfl) ?_
    refine lv_dup G.1 G.2.1 d_Mo_fieldByFaces_16 rfl ?_
    refine W.eq (g2 := F0 m 17 ls [.ref (ad a0), .ref (ad a0)]) rfl ?_
    refine ugf (v := .long (sJ σ a0 82)) G hP h_a0 iMo rfl 82 (by decide) rfl q3146 rfl rfl d_Mo_fieldByFaces_17 ?_
    refine lv_lconst (v := 1) G.1 G.2.1 d_Mo_fieldByFaces_20 (by decide) ?_
    refine lv_iload_n G.1 G.2.1 d_Mo_fieldByFaces_21 rfl (lv_at hl 1 rfl) ?_
    refine lv_lshl G.1 G.2.1 d_Mo_fieldByFaces_22 rfl ?_
    refine lv_lor G.1 G.2.1 d_Mo_fieldByFaces_23 ?_
    refine upf G hP hD hS h 82 putJ h_a0 iMo tMo tMo_ok nMo rfl (by decide) rfl q3146 rfl rfl fJ rfl rfl d_Mo_fieldByFaces_24 (fun s_1 H locs h hP hD hS => ?_)
    refine lv_bipush (v := 8) G.1 G.2.1 d_Mo_fieldByFaces_27 (by decide) ?_
    refine lv_iload_n G.1 G.2.1 d_Mo_fieldByFaces_29 rfl (lv_at hl 1 rfl) ?_
    refine lv_imul G.1 G.2.1 d_Mo_fieldByFaces_30 ?_
    refine lv_istore (lv' := [(4, .int (8 * v1)), (0, .ref (ad a0)), (1, .int v1), (2, .int v2), (3, .int v3)]) G.1 G.2.1 d_Mo_fieldByFaces_31 hl (by decide) rfl (fun ls hl => ?_)
    unfold wl_Mo_fieldByFaces_33 at h
    obtain ⟨I_33, μ_33, hI_33, hB_33⟩ := h
    have L_33 : ∀ (n_33 : Nat) (s_h33 : St) (x1h33 : Int32) (x2h33 : Int32) (x3h33 : Int32) (x4h33 : Int32), μ_33 s_h33 x1h33 x2h33 x3h33 x4h33 < n_33 → I_33 s_h33 x1h33 x2h33 x3h33 x4h33 → ∀ (H : Heap) (locs : List Loc), va_P D CL (ws g ad y s_h33) H → va_D A (ws g ad y s_h33) → va_S A s.heap H locs → ∀ ls, lv_has ls 7 [(0, .ref (ad a0)), (1, .int x1h33), (2, .int x2h33), (3, .int x3h33), (4, .int x4h33)] → W p l e (rf_Mo_fieldByFaces rr) s m args below meth c H locs 0 0 Q (F0 m 33 ls []) := by
      intro n_33
      induction n_33 with
      | zero => intro s_h33 x1h33 x2h33 x3h33 x4h33 hμ; exact absurd hμ (Nat.not_lt_zero _)
      | succ n_33 ih_33 =>
        intro s_h33 x1h33 x2h33 x3h33 x4h33 hμ_33 hJ H locs hP hD hS ls hl
        obtain ⟨K_33, hK_33, h⟩ : ∃ K : St → Int32 → Int32 → Int32 → Int32 → Prop, (∀ z (t0 : Int32) (t1 : Int32) (t2 : Int32) (t3 : Int32), K z t0 t1 t2 t3 → I_33 z t0 t1 t2 t3 ∧ μ_33 z t0 t1 t2 t3 < μ_33 s_h33 x1h33 x2h33 x3h33 x4h33) ∧ wb_Mo_fieldByFaces_33 rec y Post K a0 s_h33 x1h33 x2h33 x3h33 x4h33 := ⟨_, fun _ _ _ _ _ h => h, hB_33 s_h33 x1h33 x2h33 x3h33 x4h33 hJ⟩
        unfold wb_Mo_fieldByFaces_33 at h
        refine lv_iload G.1 G.2.1 d_Mo_fieldByFaces_33 (lv_at hl 4 rfl) ?_
        refine lv_bipush (v := 8) G.1 G.2.1 d_Mo_fieldByFaces_35 (by decide) ?_
        refine lv_iload_n G.1 G.2.1 d_Mo_fieldByFaces_37 rfl (lv_at hl 1 rfl) ?_
        refine lv_imul G.1 G.2.1 d_Mo_fieldByFaces_38 ?_
        refine lv_aload_n G.1 G.2.1 d_Mo_fieldByFaces_39 rfl (lv_at hl 0 rfl) ?_
        obtain ⟨b_2, e_3, c_4, h⟩ := h
        refine ugf (v := .ref (ad b_2)) G hP h_a0 iMo rfl 45 (by decide) rfl q3109 rfl (by show va_rf ((sO s_h33 a0 45).map ad) = _; rw [e_3]; rfl) d_Mo_fieldByFaces_40 ?_
        refine ugfN (v := .ref (yP y b_2 8)) G hP c_4 iMw rfl 8 (by decide) rfl q2720 rfl rfl d_Mo_fieldByFaces_43 ?_
        refine lv_iload_n G.1 G.2.1 d_Mo_fieldByFaces_46 rfl (lv_at hl 1 rfl) ?_
        refine uiald G hP (kdp c_4 rfl) (typ c_4 rfl) h d_Mo_fieldByFaces_47 (fun x_5 h => ?_)
        refine lv_iadd G.1 G.2.1 d_Mo_fieldByFaces_48 ?_
        refine lv_icmp_ge (tgt := 89) G.1 G.2.1 d_Mo_fieldByFaces_49 (by decide) (fun c49 => ?_) (fun c49 => ?_)
        · skip
          have h := h.1 c49
          refine W.eq (g2 := F0 m 89 ls []) rfl ?_
          refine lv_iconst (v := 0) G.1 G.2.1 d_Mo_fieldByFaces_89 (by decide) ?_
          refine lv_istore (lv' := [(4, .int 0), (0, .ref (ad a0)), (1, .int x1h33), (2, .int x2h33), (3, .int x3h33)]) G.1 G.2.1 d_Mo_fieldByFaces_90 hl (by decide) rfl (fun ls hl => ?_)
          unfold wl_Mo_fieldByFaces_92 at h
          obtain ⟨I_92, μ_92, hI_92, hB_92⟩ := h
          have L_92 : ∀ (n_92 : Nat) (s_h92 : St) (x1h92 : Int32) (x2h92 : Int32) (x3h92 : Int32) (x4h92 : Int32), μ_92 s_h92 x1h92 x2h92 x3h92 x4h92 < n_92 → I_92 s_h92 x1h92 x2h92 x3h92 x4h92 → ∀ (H : Heap) (locs : List Loc), va_P D CL (ws g ad y s_h92) H → va_D A (ws g ad y s_h92) → va_S A s.heap H locs → ∀ ls, lv_has ls 7 [(0, .ref (ad a0)), (1, .int x1h92), (2, .int x2h92), (3, .int x3h92), (4, .int x4h92)] → W p l e (rf_Mo_fieldByFaces rr) s m args below meth c H locs 0 0 Q (F0 m 92 ls []) := by
            intro n_92
            induction n_92 with
            | zero => intro s_h92 x1h92 x2h92 x3h92 x4h92 hμ; exact absurd hμ (Nat.not_lt_zero _)
            | succ n_92 ih_92 =>
              intro s_h92 x1h92 x2h92 x3h92 x4h92 hμ_92 hJ H locs hP hD hS ls hl
              obtain ⟨K_92, hK_92, h⟩ : ∃ K : St → Int32 → Int32 → Int32 → Int32 → Prop, (∀ z (t0 : Int32) (t1 : Int32) (t2 : Int32) (t3 : Int32), K z t0 t1 t2 t3 → I_92 z t0 t1 t2 t3 ∧ μ_92 z t0 t1 t2 t3 < μ_92 s_h92 x1h92 x2h92 x3h92 x4h92) ∧ wb_Mo_fieldByFaces_92 rec y Post K a0 s_h92 x1h92 x2h92 x3h92 x4h92 := ⟨_, fun _ _ _ _ _ h => h, hB_92 s_h92 x1h92 x2h92 x3h92 x4h92 hJ⟩
              unfold wb_Mo_fieldByFaces_92 at h
              refine lv_iload G.1 G.2.1 d_Mo_fieldByFaces_92 (lv_at hl 4 rfl) ?_
              refine lv_aload_n G.1 G.2.1 d_Mo_fieldByFaces_94 rfl (lv_at hl 0 rfl) ?_
              obtain ⟨b_6, e_7, c_8, h⟩ := h
              refine ugf (v := .ref (ad b_6)) G hP h_a0 iMo rfl 45 (by decide) rfl q3109 rfl (by show va_rf ((sO s_h92 a0 45).map ad) = _; rw [e_7]; rfl) d_Mo_fieldByFaces_95 ?_
              refine ugfN (v := .ref (yP y b_6 7)) G hP c_8 iMw rfl 7 (by decide) rfl q2718 rfl rfl d_Mo_fieldByFaces_98 ?_
              refine lv_iload_n G.1 G.2.1 d_Mo_fieldByFaces_101 rfl (lv_at hl 1 rfl) ?_
              refine uiald G hP (kdp c_8 rfl) (typ c_8 rfl) h d_Mo_fieldByFaces_102 (fun x_9 h => ?_)
              refine lv_icmp_ge (tgt := 159) G.1 G.2.1 d_Mo_fieldByFaces_103 (by decide) (fun c103 => ?_) (fun c103 => ?_)
              · skip
                have h := h.1 c103
                refine lv_iconst (v := (-1)) G.1 G.2.1 d_Mo_fieldByFaces_159 (by decide) ?_
                exact hret _ _ _ _ _ _ _ ls h hP hD hS (Nat.le_refl _) (Nat.le_refl _) d_Mo_fieldByFaces_160
              · skip
                have h := h.2 c103
                refine lv_aload_n G.1 G.2.1 d_Mo_fieldByFaces_106 rfl (lv_at hl 0 rfl) ?_
                refine lv_aload_n G.1 G.2.1 d_Mo_fieldByFaces_107 rfl (lv_at hl 0 rfl) ?_
                refine ugf (v := .ref (ad b_6)) G hP h_a0 iMo rfl 45 (by decide) rfl q3109 rfl (by show va_rf ((sO s_h92 a0 45).map ad) = _; rw [e_7]; rfl) d_Mo_fieldByFaces_108 ?_
                refine ugfN (v := .ref (yP y b_6 6)) G hP c_8 iMw rfl 6 (by decide) rfl q2716 rfl rfl d_Mo_fieldByFaces_111 ?_
                refine W.eq (g2 := F0 m 114 ls [.ref (yP y b_6 6), .ref (ad a0)]) rfl ?_
                refine lv_iconst (v := 4) G.1 G.2.1 d_Mo_fieldByFaces_114 (by decide) ?_
                refine lv_iload_n G.1 G.2.1 d_Mo_fieldByFaces_115 rfl (lv_at hl 1 rfl) ?_
                refine lv_imul G.1 G.2.1 d_Mo_fieldByFaces_116 ?_
                refine lv_iload G.1 G.2.1 d_Mo_fieldByFaces_117 (lv_at hl 4 rfl) ?_
                refine lv_iadd G.1 G.2.1 d_Mo_fieldByFaces_119 ?_
                refine uiald G hP (kdp c_8 rfl) (typ c_8 rfl) h d_Mo_fieldByFaces_120 (fun x_10 h => ?_)
                refine ucVi (As := [.int x_10]) (rest := []) G hP hD hS (cu_Mo_classOf l D g ad y _ s_h92 a0 x_10 H.size h_a0 h) w9_Mo_classOf q3571 ⟨Nat.le_trans (by decide) (Nat.le_add_left _ _), Nat.le_trans (by decide) (Nat.le_add_left _ _)⟩ rfl rfl h_a0 (q := (RMo, TMo, 131)) rfl rfl hl.1 rfl (Nat.le_of_ble_eq_true rfl) rfl ⟨Nat.le_refl _, Nat.le_refl _⟩ d_Mo_fieldByFaces_121 (fun r_11 s_12 H locs h hP hD hS => ?_)
                refine lv_istore (lv' := [(5, .int r_11), (0, .ref (ad a0)), (1, .int x1h92), (2, .int x2h92), (3, .int x3h92), (4, .int x4h92)]) G.1 G.2.1 d_Mo_fieldByFaces_124 hl (by decide) rfl (fun ls hl => ?_)
                refine lv_iload G.1 G.2.1 d_Mo_fieldByFaces_126 (lv_at hl 0 rfl) ?_
                have J_143 : ∀ (s_j143 : St) (x1j143 : Int32) (x2j143 : Int32) (x3j143 : Int32) (x4j143 : Int32) (z0j143 : Int32) (H : Heap) (locs : List Loc), wj_Mo_fieldByFaces_143 rec y Post K_92 a0 s_j143 x1j143 x2j143 x3j143 x4j143 z0j143 → va_P D CL (ws g ad y s_j143) H → va_D A (ws g ad y s_j143) → va_S A s.heap H locs → ∀ ls, lv_has ls 7 [(0, .ref (ad a0)), (1, .int x1j143), (2, .int x2j143), (3, .int x3j143), (4, .int x4j143)] → W p l e (rf_Mo_fieldByFaces rr) s m args below meth c H locs 0 0 Q (F0 m 143 ls [.int z0j143]) := by
                  intro s_j143 x1j143 x2j143 x3j143 x4j143 z0j143 H locs h hP hD hS ls hl
                  unfold wj_Mo_fieldByFaces_143 at h
                  refine lv_istore (lv' := [(6, .int z0j143), (0, .ref (ad a0)), (1, .int x1j143), (2, .int x2j143), (3, .int x3j143), (4, .int x4j143)]) G.1 G.2.1 d_Mo_fieldByFaces_143 hl (by decide) rfl (fun ls hl => ?_)
                  refine lv_iload G.1 G.2.1 d_Mo_fieldByFaces_145 (lv_at hl 0 rfl) ?_
                  refine lv_if_lt (tgt := 153) G.1 G.2.1 d_Mo_fieldByFaces_147 (by decide) (fun c147 => ?_) (fun c147 => ?_)
                  · skip
                    have h := h.1 c147
                    refine lv_iinc (v := x4j143 + 1) (lv' := [(4, .int (x4j143 + 1)), (6, .int z0j143), (0, .ref (ad a0)), (1, .int x1j143), (2, .int x2j143), (3, .int x3j143)]) G.1 G.2.1 d_Mo_fieldByFaces_153 hl (k := 5) rfl rfl (by decide) rfl (fun ls hl => ?_)
                    refine lv_goto (tgt := 92) G.1 G.2.1 d_Mo_fieldByFaces_156 (by decide) ?_
                    have h := hK_92 s_j143 x1j143 x2j143 x3j143 (x4j143 + 1) h
                    exact ih_92 s_j143 x1j143 x2j143 x3j143 (x4j143 + 1) (Nat.lt_of_lt_of_le h.2 (Nat.le_of_lt_succ hμ_92)) h.1 H locs hP hD hS ls (lv_sub hl [2, 3, 4, 5, 0] rfl)
                  · skip
                    have h := h.2 c147
                    refine lv_iload G.1 G.2.1 d_Mo_fieldByFaces_150 (lv_at hl 0 rfl) ?_
                    exact hret _ _ _ _ _ _ _ ls h hP hD hS (Nat.le_refl _) (Nat.le_refl _) d_Mo_fieldByFaces_152
                refine lv_if_lt (tgt := 142) G.1 G.2.1 d_Mo_fieldByFaces_128 (by decide) (fun c128 => ?_) (fun c128 => ?_)
                · skip
                  have h := h.1 c128
                  refine lv_iconst (v := (-1)) G.1 G.2.1 d_Mo_fieldByFaces_142 (by decide) ?_
                  exact J_143 s_12 x1h92 x2h92 x3h92 x4h92 (-1) H locs h hP hD hS ls (lv_sub hl [1, 2, 3, 4, 5] rfl)
                · skip
                  have h := h.2 c128
                  refine lv_aload_n G.1 G.2.1 d_Mo_fieldByFaces_131 rfl (lv_at hl 1 rfl) ?_
                  refine lv_iload G.1 G.2.1 d_Mo_fieldByFaces_132 (lv_at hl 0 rfl) ?_
                  refine W.eq (g2 := F0 m 134 ls [.int r_11, .ref (ad a0)]) rfl ?_
                  refine lv_iload_n G.1 G.2.1 d_Mo_fieldByFaces_134 rfl (lv_at hl 3 rfl) ?_
                  refine lv_iload_n G.1 G.2.1 d_Mo_fieldByFaces_135 rfl (lv_at hl 4 rfl) ?_
                  refine ucVi (As := [.int r_11, .int x2h92, .int x3h92]) (rest := []) G hP hD hS (hrec y _ s_12 a0 r_11 x2h92 x3h92 H.size h_a0 h) w9_Mo_fieldByFaces q3935 ⟨by show rr.frames + 1 ≤ rr.frames + _; omega, by show 8 + (7 + 11) + rr.locals ≤ rr.locals + _; omega⟩ hrr.1 hrr.2 h_a0 (q := (RMo, TMo, 131)) rfl rfl hl.1 rfl (Nat.le_of_ble_eq_true rfl) rfl ⟨Nat.le_refl _, Nat.le_refl _⟩ d_Mo_fieldByFaces_136 (fun r_13 s_14 H locs h hP hD hS => ?_)
                  refine lv_goto (tgt := 143) G.1 G.2.1 d_Mo_fieldByFaces_139 (by decide) ?_
                  exact J_143 s_14 x1h92 x2h92 x3h92 x4h92 r_13 H locs h hP hD hS ls (lv_sub hl [1, 2, 3, 4, 5] rfl)
          exact L_92 _ s_h33 x1h33 x2h33 x3h33 0 (Nat.lt_succ_self _) hI_92 H locs hP hD hS ls (lv_sub hl [1, 2, 3, 4, 0] rfl)
        · skip
          have h := h.2 c49
          refine W.eq (g2 := F0 m 52 ls []) rfl ?_
          refine lv_aload_n G.1 G.2.1 d_Mo_fieldByFaces_52 rfl (lv_at hl 0 rfl) ?_
          refine ugf (v := .ref (ad b_2)) G hP h_a0 iMo rfl 45 (by decide) rfl q3109 rfl (by show va_rf ((sO s_h33 a0 45).map ad) = _; rw [e_3]; rfl) d_Mo_fieldByFaces_53 ?_
          refine ugfN (v := .ref (yP y b_2 12)) G hP c_4 iMw rfl 12 (by decide) rfl q2728 rfl rfl d_Mo_fieldByFaces_56 ?_
          refine lv_iload G.1 G.2.1 d_Mo_fieldByFaces_59 (lv_at hl 4 rfl) ?_
          refine uiald G hP (kdp c_4 rfl) (typ c_4 rfl) h d_Mo_fieldByFaces_61 (fun x_15 h => ?_)
          refine lv_iload_n G.1 G.2.1 d_Mo_fieldByFaces_62 rfl (lv_at hl 2 rfl) ?_
          have J_83 : ∀ (s_j83 : St) (x1j83 : Int32) (x2j83 : Int32) (x3j83 : Int32) (x4j83 : Int32) (H : Heap) (locs : List Loc), wj_Mo_fieldByFaces_83 rec y Post K_33 a0 s_j83 x1j83 x2j83 x3j83 x4j83 → va_P D CL (ws g ad y s_j83) H → va_D A (ws g ad y s_j83) → va_S A s.heap H locs → ∀ ls, lv_has ls 7 [(0, .ref (ad a0)), (1, .int x1j83), (2, .int x2j83), (3, .int x3j83), (4, .int x4j83)] → W p l e (rf_Mo_fieldByFaces rr) s m args below meth c H locs 0 0 Q (F0 m 83 ls []) := by
            intro s_j83 x1j83 x2j83 x3j83 x4j83 H locs h hP hD hS ls hl
            unfold wj_Mo_fieldByFaces_83 at h
            refine lv_iinc (v := x4j83 + 1) (lv' := [(4, .int (x4j83 + 1)), (0, .ref (ad a0)), (1, .int x1j83), (2, .int x2j83), (3, .int x3j83)]) G.1 G.2.1 d_Mo_fieldByFaces_83 hl (k := 4) rfl rfl (by decide) rfl (fun ls hl => ?_)
            refine lv_goto (tgt := 33) G.1 G.2.1 d_Mo_fieldByFaces_86 (by decide) ?_
            have h := hK_33 s_j83 x1j83 x2j83 x3j83 (x4j83 + 1) h
            exact ih_33 s_j83 x1j83 x2j83 x3j83 (x4j83 + 1) (Nat.lt_of_lt_of_le h.2 (Nat.le_of_lt_succ hμ_33)) h.1 H locs hP hD hS ls (lv_sub hl [1, 2, 3, 4, 0] rfl)
          refine lv_icmp_ne (tgt := 83) G.1 G.2.1 d_Mo_fieldByFaces_63 (by decide) (fun c63 => ?_) (fun c63 => ?_)
          · skip
            have h := h.1 c63
            exact J_83 s_h33 x1h33 x2h33 x3h33 x4h33 H locs h hP hD hS ls (lv_sub hl [0, 1, 2, 3, 4] rfl)
          · skip
            have h := h.2 c63
            refine lv_aload_n G.1 G.2.1 d_Mo_fieldByFaces_66 rfl (lv_at hl 0 rfl) ?_
            refine ugf (v := .ref (ad b_2)) G hP h_a0 iMo rfl 45 (by decide) rfl q3109 rfl (by show va_rf ((sO s_h33 a0 45).map ad) = _; rw [e_3]; rfl) d_Mo_fieldByFaces_67 ?_
            refine ugfN (v := .ref (yP y b_2 13)) G hP c_4 iMw rfl 13 (by decide) rfl q2730 rfl rfl d_Mo_fieldByFaces_70 ?_
            refine lv_iload G.1 G.2.1 d_Mo_fieldByFaces_73 (lv_at hl 4 rfl) ?_
            refine uiald G hP (kdp c_4 rfl) (typ c_4 rfl) h d_Mo_fieldByFaces_75 (fun x_16 h => ?_)
            refine W.eq (g2 := F0 m 76 ls [.int x_16]) rfl ?_
            refine lv_iload_n G.1 G.2.1 d_Mo_fieldByFaces_76 rfl (lv_at hl 3 rfl) ?_
            refine lv_icmp_ne (tgt := 83) G.1 G.2.1 d_Mo_fieldByFaces_77 (by decide) (fun c77 => ?_) (fun c77 => ?_)
            · skip
              have h := h.1 c77
              exact J_83 s_h33 x1h33 x2h33 x3h33 x4h33 H locs h hP hD hS ls (lv_sub hl [0, 1, 2, 3, 4] rfl)
            · skip
              have h := h.2 c77
              refine lv_iload G.1 G.2.1 d_Mo_fieldByFaces_80 (lv_at hl 4 rfl) ?_
              exact hret _ _ _ _ _ _ _ ls h hP hD hS (Nat.le_refl _) (Nat.le_refl _) d_Mo_fieldByFaces_82
    exact L_33 _ s_1 v1 v2 v3 (8 * v1) (Nat.lt_succ_self _) hI_33 H locs hP hD hS ls (lv_sub hl [1, 2, 3, 4, 0] rfl)
  · skip
    have h := h.2 c10
    refine lv_iconst (v := (-1)) G.1 G.2.1 d_Mo_fieldByFaces_13 (by decide) ?_
    exact hret _ _ _ _ _ _ _ ls h hP hD hS (Nat.le_refl _) (Nat.le_refl _) d_Mo_fieldByFaces_14
def wn_Mo_fieldByFaces : Nat → Ly → (St → Int32 → Prop) → St → Nat → Int32 → Int32 → Int32 → Prop
  | 0 => fun _ _ _ _ _ _ _ => False
  | n + 1 => wf_Mo_fieldByFaces (wn_Mo_fieldByFaces n)
def rn_Mo_fieldByFaces : Nat → Room
  | 0 => { frames := 0, cells := 0, slots := 0, locals := 0 }
  | n + 1 => rf_Mo_fieldByFaces (rn_Mo_fieldByFaces n)
theorem rn_Mo_fieldByFaces_0 : ∀ n, (rn_Mo_fieldByFaces n).cells = 0 ∧ (rn_Mo_fieldByFaces n).slots = 0
  | 0 => ⟨rfl, rfl⟩
  | _ + 1 => ⟨rfl, rfl⟩
theorem cn_Mo_fieldByFaces (l : Launch) (D : va_G) (g : Nat → ClassId) (ad : Nat → Nat) : ∀ (n : Nat) (y : Ly) (Post : St → Int32 → Prop) (σ : St) (a0 : Nat) (v1 : Int32) (v2 : Int32) (v3 : Int32) (sz : Nat) (h_a0 : cl a0 = 14) (h : wn_Mo_fieldByFaces n y Post σ a0 v1 v2 v3), Met l y_Mo_fieldByFaces (mw y_Mo_fieldByFaces b_Mo_fieldByFaces 7 (some .int)) (rn_Mo_fieldByFaces n) (PC g D [] [.ref (ad a0), .int v1, .int v2, .int v3] sz (ws g ad y σ)) (va_Qi (fun (r : Int32) (u : St) => Post u r) (QW D (va_A (ws g ad y σ) sz) (fun u => ws g ad y u)) (va_A (ws g ad y σ) sz)) 0 0 (va_A (ws g ad y σ) sz)
  | 0, _, _, _, _, _, _, _, _, _, h => False.elim (show False from h)
  | n + 1, y, Post, σ, a0, v1, v2, v3, sz, h_a0, h => cf_Mo_fieldByFaces l D g ad (wn_Mo_fieldByFaces n) (rn_Mo_fieldByFaces n) (rn_Mo_fieldByFaces_0 n) (cn_Mo_fieldByFaces l D g ad n) y Post σ a0 v1 v2 v3 sz h_a0 h
abbrev ru_Mo_fieldByFaces : Room := rn_Mo_fieldByFaces 52
def wu_Mo_fieldByFaces (y : Ly) (Post : St → Int32 → Prop) (σ : St) (a0 : Nat) (v1 : Int32) (v2 : Int32) (v3 : Int32) : Prop := wn_Mo_fieldByFaces 52 y Post σ a0 v1 v2 v3
theorem cu_Mo_fieldByFaces (l : Launch) (D : va_G) (g : Nat → ClassId) (ad : Nat → Nat) (y : Ly) (Post : St → Int32 → Prop) (σ : St) (a0 : Nat) (v1 : Int32) (v2 : Int32) (v3 : Int32) (sz : Nat) (h_a0 : cl a0 = 14) (h : wu_Mo_fieldByFaces y Post σ a0 v1 v2 v3) : Met l y_Mo_fieldByFaces (mw y_Mo_fieldByFaces b_Mo_fieldByFaces 7 (some .int)) ru_Mo_fieldByFaces (PC g D [] [.ref (ad a0), .int v1, .int v2, .int v3] sz (ws g ad y σ)) (va_Qi (fun (r : Int32) (u : St) => Post u r) (QW D (va_A (ws g ad y σ) sz) (fun u => ws g ad y u)) (va_A (ws g ad y σ) sz)) 0 0 (va_A (ws g ad y σ) sz) := cn_Mo_fieldByFaces l D g ad 52 y Post σ a0 v1 v2 v3 sz h_a0 h
def y_Mo_findField : MethodName := ⟨"ClassWorksModel", "findField", "(III)I"⟩
abbrev b_Mo_findField : ByteArray := prog_14_method_83_code
theorem d_Mo_findField_0 : decode b_Mo_findField 0 = .ok (.aload_n 0, 1) := by decide +kernel
theorem d_Mo_findField_1 : decode b_Mo_findField 1 = .ok (.aload_n 0, 1) := by decide +kernel
theorem d_Mo_findField_2 : decode b_Mo_findField 2 = .ok (.getfield 522, 3) := by decide +kernel
theorem d_Mo_findField_5 : decode b_Mo_findField 5 = .ok (.getfield 677, 3) := by decide +kernel
theorem d_Mo_findField_8 : decode b_Mo_findField 8 = .ok (.iload_n 2, 1) := by decide +kernel
theorem d_Mo_findField_9 : decode b_Mo_findField 9 = .ok (.iaload, 1) := by decide +kernel
theorem d_Mo_findField_10 : decode b_Mo_findField 10 = .ok (.invokevirtual 859, 3) := by decide +kernel
theorem d_Mo_findField_13 : decode b_Mo_findField 13 = .ok (.istore 4, 2) := by decide +kernel
theorem d_Mo_findField_15 : decode b_Mo_findField 15 = .ok (.iload 4, 2) := by decide +kernel
theorem d_Mo_findField_17 : decode b_Mo_findField 17 = .ok (.ifCond .ge 5, 3) := by decide +kernel
theorem d_Mo_findField_20 : decode b_Mo_findField 20 = .ok (.iconst (-1), 1) := by decide +kernel
theorem d_Mo_findField_21 : decode b_Mo_findField 21 = .ok (.ireturn, 1) := by decide +kernel
theorem d_Mo_findField_22 : decode b_Mo_findField 22 = .ok (.iconst (-1), 1) := by decide +kernel
theorem d_Mo_findField_23 : decode b_Mo_findField 23 = .ok (.istore 5, 2) := by decide +kernel
theorem d_Mo_findField_25 : decode b_Mo_findField 25 = .ok (.aload_n 0, 1) := by decide +kernel
theorem d_Mo_findField_26 : decode b_Mo_findField 26 = .ok (.lconst 0, 1) := by decide +kernel
theorem d_Mo_findField_27 : decode b_Mo_findField 27 = .ok (.putfield 853, 3) := by decide +kernel
theorem d_Mo_findField_30 : decode b_Mo_findField 30 = .ok (.iload 4, 2) := by decide +kernel
theorem d_Mo_findField_32 : decode b_Mo_findField 32 = .ok (.istore 6, 2) := by decide +kernel
theorem d_Mo_findField_34 : decode b_Mo_findField 34 = .ok (.iload 6, 2) := by decide +kernel
theorem d_Mo_findField_36 : decode b_Mo_findField 36 = .ok (.ifCond .lt 45, 3) := by decide +kernel
theorem d_Mo_findField_39 : decode b_Mo_findField 39 = .ok (.iload 5, 2) := by decide +kernel
theorem d_Mo_findField_41 : decode b_Mo_findField 41 = .ok (.ifCond .ge 40, 3) := by decide +kernel
theorem d_Mo_findField_44 : decode b_Mo_findField 44 = .ok (.aload_n 0, 1) := by decide +kernel
theorem d_Mo_findField_45 : decode b_Mo_findField 45 = .ok (.iload 6, 2) := by decide +kernel
theorem d_Mo_findField_47 : decode b_Mo_findField 47 = .ok (.aload_n 0, 1) := by decide +kernel
theorem d_Mo_findField_48 : decode b_Mo_findField 48 = .ok (.getfield 522, 3) := by decide +kernel
theorem d_Mo_findField_51 : decode b_Mo_findField 51 = .ok (.getfield 680, 3) := by decide +kernel
theorem d_Mo_findField_54 : decode b_Mo_findField 54 = .ok (.iload_n 2, 1) := by decide +kernel
theorem d_Mo_findField_55 : decode b_Mo_findField 55 = .ok (.iaload, 1) := by decide +kernel
theorem d_Mo_findField_56 : decode b_Mo_findField 56 = .ok (.aload_n 0, 1) := by decide +kernel
theorem d_Mo_findField_57 : decode b_Mo_findField 57 = .ok (.getfield 522, 3) := by decide +kernel
theorem d_Mo_findField_60 : decode b_Mo_findField 60 = .ok (.getfield 683, 3) := by decide +kernel
theorem d_Mo_findField_63 : decode b_Mo_findField 63 = .ok (.iload_n 2, 1) := by decide +kernel
theorem d_Mo_findField_64 : decode b_Mo_findField 64 = .ok (.iaload, 1) := by decide +kernel
theorem d_Mo_findField_65 : decode b_Mo_findField 65 = .ok (.invokevirtual 856, 3) := by decide +kernel
theorem d_Mo_findField_68 : decode b_Mo_findField 68 = .ok (.istore 5, 2) := by decide +kernel
theorem d_Mo_findField_70 : decode b_Mo_findField 70 = .ok (.aload_n 0, 1) := by decide +kernel
theorem d_Mo_findField_71 : decode b_Mo_findField 71 = .ok (.iload 6, 2) := by decide +kernel
theorem d_Mo_findField_73 : decode b_Mo_findField 73 = .ok (.invokevirtual 725, 3) := by decide +kernel
theorem d_Mo_findField_76 : decode b_Mo_findField 76 = .ok (.istore 6, 2) := by decide +kernel
theorem d_Mo_findField_78 : decode b_Mo_findField 78 = .ok (.goto (-44), 3) := by decide +kernel
theorem d_Mo_findField_81 : decode b_Mo_findField 81 = .ok (.iload 5, 2) := by decide +kernel
theorem d_Mo_findField_83 : decode b_Mo_findField 83 = .ok (.ifCond .ge 12, 3) := by decide +kernel
theorem d_Mo_findField_86 : decode b_Mo_findField 86 = .ok (.aload_n 0, 1) := by decide +kernel
theorem d_Mo_findField_87 : decode b_Mo_findField 87 = .ok (.bipush 51, 2) := by decide +kernel
theorem d_Mo_findField_89 : decode b_Mo_findField 89 = .ok (.bipush 12, 2) := by decide +kernel
theorem d_Mo_findField_91 : decode b_Mo_findField 91 = .ok (.invokevirtual 850, 3) := by decide +kernel
theorem d_Mo_findField_94 : decode b_Mo_findField 94 = .ok (.ireturn, 1) := by decide +kernel
theorem d_Mo_findField_95 : decode b_Mo_findField 95 = .ok (.iload 5, 2) := by decide +kernel
theorem d_Mo_findField_97 : decode b_Mo_findField 97 = .ok (.bipush 8, 2) := by decide +kernel
theorem d_Mo_findField_99 : decode b_Mo_findField 99 = .ok (.idiv, 1) := by decide +kernel
theorem d_Mo_findField_100 : decode b_Mo_findField 100 = .ok (.istore 6, 2) := by decide +kernel
theorem d_Mo_findField_102 : decode b_Mo_findField 102 = .ok (.aload_n 0, 1) := by decide +kernel
theorem d_Mo_findField_103 : decode b_Mo_findField 103 = .ok (.getfield 522, 3) := by decide +kernel
theorem d_Mo_findField_106 : decode b_Mo_findField 106 = .ok (.getfield 627, 3) := by decide +kernel
theorem d_Mo_findField_109 : decode b_Mo_findField 109 = .ok (.iload 5, 2) := by decide +kernel
theorem d_Mo_findField_111 : decode b_Mo_findField 111 = .ok (.iaload, 1) := by decide +kernel
theorem d_Mo_findField_112 : decode b_Mo_findField 112 = .ok (.istore 7, 2) := by decide +kernel
theorem d_Mo_findField_114 : decode b_Mo_findField 114 = .ok (.iload_n 1, 1) := by decide +kernel
theorem d_Mo_findField_115 : decode b_Mo_findField 115 = .ok (.bipush 48, 2) := by decide +kernel
theorem d_Mo_findField_117 : decode b_Mo_findField 117 = .ok (.if_icmp .eq 9, 3) := by decide +kernel
theorem d_Mo_findField_120 : decode b_Mo_findField 120 = .ok (.iload_n 1, 1) := by decide +kernel
theorem d_Mo_findField_121 : decode b_Mo_findField 121 = .ok (.bipush 49, 2) := by decide +kernel
theorem d_Mo_findField_123 : decode b_Mo_findField 123 = .ok (.if_icmp .ne 7, 3) := by decide +kernel
theorem d_Mo_findField_126 : decode b_Mo_findField 126 = .ok (.iconst 1, 1) := by decide +kernel
theorem d_Mo_findField_127 : decode b_Mo_findField 127 = .ok (.goto 4, 3) := by decide +kernel
theorem d_Mo_findField_130 : decode b_Mo_findField 130 = .ok (.iconst 0, 1) := by decide +kernel
theorem d_Mo_findField_131 : decode b_Mo_findField 131 = .ok (.istore 8, 2) := by decide +kernel
theorem d_Mo_findField_133 : decode b_Mo_findField 133 = .ok (.iload 6, 2) := by decide +kernel
theorem d_Mo_findField_135 : decode b_Mo_findField 135 = .ok (.iload_n 3, 1) := by decide +kernel
theorem d_Mo_findField_136 : decode b_Mo_findField 136 = .ok (.bipush 12, 2) := by decide +kernel
theorem d_Mo_findField_138 : decode b_Mo_findField 138 = .ok (.idiv, 1) := by decide +kernel
theorem d_Mo_findField_139 : decode b_Mo_findField 139 = .ok (.if_icmp .eq 7, 3) := by decide +kernel
theorem d_Mo_findField_142 : decode b_Mo_findField 142 = .ok (.iconst 1, 1) := by decide +kernel
theorem d_Mo_findField_143 : decode b_Mo_findField 143 = .ok (.goto 4, 3) := by decide +kernel
theorem d_Mo_findField_146 : decode b_Mo_findField 146 = .ok (.iconst 0, 1) := by decide +kernel
theorem d_Mo_findField_147 : decode b_Mo_findField 147 = .ok (.istore 9, 2) := by decide +kernel
theorem d_Mo_findField_149 : decode b_Mo_findField 149 = .ok (.aload_n 0, 1) := by decide +kernel
theorem d_Mo_findField_150 : decode b_Mo_findField 150 = .ok (.iconst 5, 1) := by decide +kernel
theorem d_Mo_findField_151 : decode b_Mo_findField 151 = .ok (.invokevirtual 609, 3) := by decide +kernel
theorem d_Mo_findField_154 : decode b_Mo_findField 154 = .ok (.ifCond .ne 24, 3) := by decide +kernel
theorem d_Mo_findField_157 : decode b_Mo_findField 157 = .ok (.iload 7, 2) := by decide +kernel
theorem d_Mo_findField_159 : decode b_Mo_findField 159 = .ok (.iconst 4, 1) := by decide +kernel
theorem d_Mo_findField_160 : decode b_Mo_findField 160 = .ok (.iand, 1) := by decide +kernel
theorem d_Mo_findField_161 : decode b_Mo_findField 161 = .ok (.ifCond .eq 17, 3) := by decide +kernel
theorem d_Mo_findField_164 : decode b_Mo_findField 164 = .ok (.iload 9, 2) := by decide +kernel
theorem d_Mo_findField_166 : decode b_Mo_findField 166 = .ok (.ifCond .eq 12, 3) := by decide +kernel
theorem d_Mo_findField_169 : decode b_Mo_findField 169 = .ok (.aload_n 0, 1) := by decide +kernel
theorem d_Mo_findField_170 : decode b_Mo_findField 170 = .ok (.bipush 53, 2) := by decide +kernel
theorem d_Mo_findField_172 : decode b_Mo_findField 172 = .ok (.bipush 14, 2) := by decide +kernel
theorem d_Mo_findField_174 : decode b_Mo_findField 174 = .ok (.invokevirtual 850, 3) := by decide +kernel
theorem d_Mo_findField_177 : decode b_Mo_findField 177 = .ok (.ireturn, 1) := by decide +kernel
theorem d_Mo_findField_178 : decode b_Mo_findField 178 = .ok (.iload 7, 2) := by decide +kernel
theorem d_Mo_findField_180 : decode b_Mo_findField 180 = .ok (.iconst 1, 1) := by decide +kernel
theorem d_Mo_findField_181 : decode b_Mo_findField 181 = .ok (.iand, 1) := by decide +kernel
theorem d_Mo_findField_182 : decode b_Mo_findField 182 = .ok (.ifCond .eq 7, 3) := by decide +kernel
theorem d_Mo_findField_185 : decode b_Mo_findField 185 = .ok (.iconst 1, 1) := by decide +kernel
theorem d_Mo_findField_186 : decode b_Mo_findField 186 = .ok (.goto 4, 3) := by decide +kernel
theorem d_Mo_findField_189 : decode b_Mo_findField 189 = .ok (.iconst 0, 1) := by decide +kernel
theorem d_Mo_findField_190 : decode b_Mo_findField 190 = .ok (.iload 8, 2) := by decide +kernel
theorem d_Mo_findField_192 : decode b_Mo_findField 192 = .ok (.if_icmp .ne 23, 3) := by decide +kernel
theorem d_Mo_findField_195 : decode b_Mo_findField 195 = .ok (.iload 8, 2) := by decide +kernel
theorem d_Mo_findField_197 : decode b_Mo_findField 197 = .ok (.ifCond .ne 27, 3) := by decide +kernel
theorem d_Mo_findField_200 : decode b_Mo_findField 200 = .ok (.aload_n 0, 1) := by decide +kernel
theorem d_Mo_findField_201 : decode b_Mo_findField 201 = .ok (.getfield 522, 3) := by decide +kernel
theorem d_Mo_findField_204 : decode b_Mo_findField 204 = .ok (.getfield 429, 3) := by decide +kernel
theorem d_Mo_findField_207 : decode b_Mo_findField 207 = .ok (.iload 6, 2) := by decide +kernel
theorem d_Mo_findField_209 : decode b_Mo_findField 209 = .ok (.iaload, 1) := by decide +kernel
theorem d_Mo_findField_210 : decode b_Mo_findField 210 = .ok (.iconst 4, 1) := by decide +kernel
theorem d_Mo_findField_211 : decode b_Mo_findField 211 = .ok (.iand, 1) := by decide +kernel
theorem d_Mo_findField_212 : decode b_Mo_findField 212 = .ok (.ifCond .eq 12, 3) := by decide +kernel
theorem d_Mo_findField_215 : decode b_Mo_findField 215 = .ok (.aload_n 0, 1) := by decide +kernel
theorem d_Mo_findField_216 : decode b_Mo_findField 216 = .ok (.bipush 55, 2) := by decide +kernel
theorem d_Mo_findField_218 : decode b_Mo_findField 218 = .ok (.bipush 15, 2) := by decide +kernel
theorem d_Mo_findField_220 : decode b_Mo_findField 220 = .ok (.invokevirtual 850, 3) := by decide +kernel
theorem d_Mo_findField_223 : decode b_Mo_findField 223 = .ok (.ireturn, 1) := by decide +kernel
theorem d_Mo_findField_224 : decode b_Mo_findField 224 = .ok (.iload_n 1, 1) := by decide +kernel
theorem d_Mo_findField_225 : decode b_Mo_findField 225 = .ok (.bipush 47, 2) := by decide +kernel
theorem d_Mo_findField_227 : decode b_Mo_findField 227 = .ok (.if_icmp .eq 9, 3) := by decide +kernel
theorem d_Mo_findField_230 : decode b_Mo_findField 230 = .ok (.iload_n 1, 1) := by decide +kernel
theorem d_Mo_findField_231 : decode b_Mo_findField 231 = .ok (.bipush 49, 2) := by decide +kernel
theorem d_Mo_findField_233 : decode b_Mo_findField 233 = .ok (.if_icmp .ne 7, 3) := by decide +kernel
theorem d_Mo_findField_236 : decode b_Mo_findField 236 = .ok (.iconst 1, 1) := by decide +kernel
theorem d_Mo_findField_237 : decode b_Mo_findField 237 = .ok (.goto 4, 3) := by decide +kernel
theorem d_Mo_findField_240 : decode b_Mo_findField 240 = .ok (.iconst 0, 1) := by decide +kernel
theorem d_Mo_findField_241 : decode b_Mo_findField 241 = .ok (.istore 10, 2) := by decide +kernel
theorem d_Mo_findField_243 : decode b_Mo_findField 243 = .ok (.aload_n 0, 1) := by decide +kernel
theorem d_Mo_findField_244 : decode b_Mo_findField 244 = .ok (.bipush 6, 2) := by decide +kernel
theorem d_Mo_findField_246 : decode b_Mo_findField 246 = .ok (.invokevirtual 609, 3) := by decide +kernel
theorem d_Mo_findField_249 : decode b_Mo_findField 249 = .ok (.ifCond .ne 57, 3) := by decide +kernel
theorem d_Mo_findField_252 : decode b_Mo_findField 252 = .ok (.iload 10, 2) := by decide +kernel
theorem d_Mo_findField_254 : decode b_Mo_findField 254 = .ok (.ifCond .eq 52, 3) := by decide +kernel
theorem d_Mo_findField_257 : decode b_Mo_findField 257 = .ok (.iload 7, 2) := by decide +kernel
theorem d_Mo_findField_259 : decode b_Mo_findField 259 = .ok (.iconst 2, 1) := by decide +kernel
theorem d_Mo_findField_260 : decode b_Mo_findField 260 = .ok (.iand, 1) := by decide +kernel
theorem d_Mo_findField_261 : decode b_Mo_findField 261 = .ok (.ifCond .eq 45, 3) := by decide +kernel
theorem d_Mo_findField_264 : decode b_Mo_findField 264 = .ok (.iload 9, 2) := by decide +kernel
theorem d_Mo_findField_266 : decode b_Mo_findField 266 = .ok (.ifCond .ne 31, 3) := by decide +kernel
theorem d_Mo_findField_269 : decode b_Mo_findField 269 = .ok (.aload_n 0, 1) := by decide +kernel
theorem d_Mo_findField_270 : decode b_Mo_findField 270 = .ok (.getfield 522, 3) := by decide +kernel
theorem d_Mo_findField_273 : decode b_Mo_findField 273 = .ok (.getfield 447, 3) := by decide +kernel
theorem d_Mo_findField_276 : decode b_Mo_findField 276 = .ok (.iload_n 3, 1) := by decide +kernel
theorem d_Mo_findField_277 : decode b_Mo_findField 277 = .ok (.iaload, 1) := by decide +kernel
theorem d_Mo_findField_278 : decode b_Mo_findField 278 = .ok (.iload 8, 2) := by decide +kernel
theorem d_Mo_findField_280 : decode b_Mo_findField 280 = .ok (.ifCond .eq 10, 3) := by decide +kernel
theorem d_Mo_findField_283 : decode b_Mo_findField 283 = .ok (.aload_n 0, 1) := by decide +kernel
theorem d_Mo_findField_284 : decode b_Mo_findField 284 = .ok (.getfield 127, 3) := by decide +kernel
theorem d_Mo_findField_287 : decode b_Mo_findField 287 = .ok (.goto 7, 3) := by decide +kernel
theorem d_Mo_findField_290 : decode b_Mo_findField 290 = .ok (.aload_n 0, 1) := by decide +kernel
theorem d_Mo_findField_291 : decode b_Mo_findField 291 = .ok (.getfield 121, 3) := by decide +kernel
theorem d_Mo_findField_294 : decode b_Mo_findField 294 = .ok (.if_icmp .eq 12, 3) := by decide +kernel
theorem d_Mo_findField_297 : decode b_Mo_findField 297 = .ok (.aload_n 0, 1) := by decide +kernel
theorem d_Mo_findField_298 : decode b_Mo_findField 298 = .ok (.bipush 54, 2) := by decide +kernel
theorem d_Mo_findField_300 : decode b_Mo_findField 300 = .ok (.bipush 14, 2) := by decide +kernel
theorem d_Mo_findField_302 : decode b_Mo_findField 302 = .ok (.invokevirtual 850, 3) := by decide +kernel
theorem d_Mo_findField_305 : decode b_Mo_findField 305 = .ok (.ireturn, 1) := by decide +kernel
theorem d_Mo_findField_306 : decode b_Mo_findField 306 = .ok (.iload 5, 2) := by decide +kernel
theorem d_Mo_findField_308 : decode b_Mo_findField 308 = .ok (.ireturn, 1) := by decide +kernel
abbrev ru_Mo_findField : Room := { frames := 470, cells := 0, slots := 0, locals := 11432 }
def wj_Mo_findField_215 (y : Ly) (Post : St → Int32 → Prop) (a0 : Nat) (s_j215 : St) : Prop := wu_Mo_fails y (fun (s_15 : St) (r_14 : Int32) => Post s_15 r_14) s_j215 a0 55 15
def wj_Mo_findField_306 (y : Ly) (Post : St → Int32 → Prop) (a0 : Nat) (s_j306 : St) (x5j306 : Int32) : Prop := Post s_j306 x5j306
def wj_Mo_findField_297 (y : Ly) (Post : St → Int32 → Prop) (a0 : Nat) (s_j297 : St) : Prop := wu_Mo_fails y (fun (s_19 : St) (r_18 : Int32) => Post s_19 r_18) s_j297 a0 54 14
def wj_Mo_findField_294 (y : Ly) (Post : St → Int32 → Prop) (a0 : Nat) (s_j294 : St) (x5j294 : Int32) (z0j294 : Int32) (z1j294 : Int32) : Prop := ((z0j294 = z1j294 → wj_Mo_findField_306 y Post a0 s_j294 x5j294) ∧ (¬ (z0j294 = z1j294) → wj_Mo_findField_297 y Post a0 s_j294))
def wj_Mo_findField_241 (y : Ly) (Post : St → Int32 → Prop) (a0 : Nat) (s_j241 : St) (x3j241 : Int32) (x5j241 : Int32) (x7j241 : Int32) (x8j241 : Int32) (x9j241 : Int32) (z0j241 : Int32) : Prop := wu_Mo_isOff y (fun (s_17 : St) (r_16 : Int32) => ((¬ r_16 = 0 → wj_Mo_findField_306 y Post a0 s_17 x5j241) ∧ (r_16 = 0 → ((z0j241 = 0 → wj_Mo_findField_306 y Post a0 s_17 x5j241) ∧ (¬ (z0j241 = 0) → (((x7j241 &&& 2) = 0 → wj_Mo_findField_306 y Post a0 s_17 x5j241) ∧ (¬ ((x7j241 &&& 2) = 0) → ((¬ x9j241 = 0 → wj_Mo_findField_297 y Post a0 s_17) ∧ (x9j241 = 0 → ∃ b_20 : Nat, sO s_17 a0 45 = some b_20 ∧ cl b_20 = 13 ∧ xA y s_17 b_20 18 x3j241 (fun x_23 : Int32 => ((x8j241 = 0 → wj_Mo_findField_294 y Post a0 s_17 x5j241 x_23 (sV s_17 a0 6)) ∧ (¬ (x8j241 = 0) → wj_Mo_findField_294 y Post a0 s_17 x5j241 x_23 (sV s_17 a0 7))))))))))))) s_j241 a0 6
def wj_Mo_findField_236 (y : Ly) (Post : St → Int32 → Prop) (a0 : Nat) (s_j236 : St) (x3j236 : Int32) (x5j236 : Int32) (x7j236 : Int32) (x8j236 : Int32) (x9j236 : Int32) : Prop := wj_Mo_findField_241 y Post a0 s_j236 x3j236 x5j236 x7j236 x8j236 x9j236 1
def wj_Mo_findField_224 (y : Ly) (Post : St → Int32 → Prop) (a0 : Nat) (s_j224 : St) (x1j224 : Int32) (x3j224 : Int32) (x5j224 : Int32) (x7j224 : Int32) (x8j224 : Int32) (x9j224 : Int32) : Prop := ((x1j224 = 47 → wj_Mo_findField_236 y Post a0 s_j224 x3j224 x5j224 x7j224 x8j224 x9j224) ∧ (¬ (x1j224 = 47) → ((¬ x1j224 = 49 → wj_Mo_findField_241 y Post a0 s_j224 x3j224 x5j224 x7j224 x8j224 x9j224 0) ∧ (x1j224 = 49 → wj_Mo_findField_236 y Post a0 s_j224 x3j224 x5j224 x7j224 x8j224 x9j224))))
def wj_Mo_findField_190 (y : Ly) (Post : St → Int32 → Prop) (a0 : Nat) (s_j190 : St) (x1j190 : Int32) (x3j190 : Int32) (x5j190 : Int32) (x6j190 : Int32) (x7j190 : Int32) (x8j190 : Int32) (x9j190 : Int32) (z0j190 : Int32) : Prop := ((¬ z0j190 = x8j190 → wj_Mo_findField_215 y Post a0 s_j190) ∧ (z0j190 = x8j190 → ((¬ x8j190 = 0 → wj_Mo_findField_224 y Post a0 s_j190 x1j190 x3j190 x5j190 x7j190 x8j190 x9j190) ∧ (x8j190 = 0 → ∃ b_24 : Nat, sO s_j190 a0 45 = some b_24 ∧ cl b_24 = 13 ∧ xA y s_j190 b_24 5 x6j190 (fun x_27 : Int32 => (((x_27 &&& 4) = 0 → wj_Mo_findField_224 y Post a0 s_j190 x1j190 x3j190 x5j190 x7j190 x8j190 x9j190) ∧ (¬ ((x_27 &&& 4) = 0) → wj_Mo_findField_215 y Post a0 s_j190)))))))
def wj_Mo_findField_178 (y : Ly) (Post : St → Int32 → Prop) (a0 : Nat) (s_j178 : St) (x1j178 : Int32) (x3j178 : Int32) (x5j178 : Int32) (x6j178 : Int32) (x7j178 : Int32) (x8j178 : Int32) (x9j178 : Int32) : Prop := (((x7j178 &&& 1) = 0 → wj_Mo_findField_190 y Post a0 s_j178 x1j178 x3j178 x5j178 x6j178 x7j178 x8j178 x9j178 0) ∧ (¬ ((x7j178 &&& 1) = 0) → wj_Mo_findField_190 y Post a0 s_j178 x1j178 x3j178 x5j178 x6j178 x7j178 x8j178 x9j178 1))
def wj_Mo_findField_147 (y : Ly) (Post : St → Int32 → Prop) (a0 : Nat) (s_j147 : St) (x1j147 : Int32) (x3j147 : Int32) (x5j147 : Int32) (x6j147 : Int32) (x7j147 : Int32) (x8j147 : Int32) (z0j147 : Int32) : Prop := wu_Mo_isOff y (fun (s_13 : St) (r_12 : Int32) => ((¬ r_12 = 0 → wj_Mo_findField_178 y Post a0 s_13 x1j147 x3j147 x5j147 x6j147 x7j147 x8j147 z0j147) ∧ (r_12 = 0 → (((x7j147 &&& 4) = 0 → wj_Mo_findField_178 y Post a0 s_13 x1j147 x3j147 x5j147 x6j147 x7j147 x8j147 z0j147) ∧ (¬ ((x7j147 &&& 4) = 0) → ((z0j147 = 0 → wj_Mo_findField_178 y Post a0 s_13 x1j147 x3j147 x5j147 x6j147 x7j147 x8j147 z0j147) ∧ (¬ (z0j147 = 0) → wu_Mo_fails y (fun (s_29 : St) (r_28 : Int32) => Post s_29 r_28) s_13 a0 53 14))))))) s_j147 a0 5
def wj_Mo_findField_131 (y : Ly) (Post : St → Int32 → Prop) (a0 : Nat) (s_j131 : St) (x1j131 : Int32) (x3j131 : Int32) (x5j131 : Int32) (x6j131 : Int32) (x7j131 : Int32) (z0j131 : Int32) : Prop := ((x6j131 = (x3j131 / 12) → wj_Mo_findField_147 y Post a0 s_j131 x1j131 x3j131 x5j131 x6j131 x7j131 z0j131 0) ∧ (¬ (x6j131 = (x3j131 / 12)) → wj_Mo_findField_147 y Post a0 s_j131 x1j131 x3j131 x5j131 x6j131 x7j131 z0j131 1))
def wj_Mo_findField_126 (y : Ly) (Post : St → Int32 → Prop) (a0 : Nat) (s_j126 : St) (x1j126 : Int32) (x3j126 : Int32) (x5j126 : Int32) (x6j126 : Int32) (x7j126 : Int32) : Prop := wj_Mo_findField_131 y Post a0 s_j126 x1j126 x3j126 x5j126 x6j126 x7j126 1
def wj_Mo_findField_81 (y : Ly) (Post : St → Int32 → Prop) (a0 : Nat) (s_j81 : St) (x1j81 : Int32) (x3j81 : Int32) (x5j81 : Int32) : Prop := ((0 ≤ x5j81 → ∃ b_8 : Nat, sO s_j81 a0 45 = some b_8 ∧ cl b_8 = 13 ∧ xA y s_j81 b_8 14 x5j81 (fun x_11 : Int32 => ((x1j81 = 48 → wj_Mo_findField_126 y Post a0 s_j81 x1j81 x3j81 x5j81 (x5j81 / 8) x_11) ∧ (¬ (x1j81 = 48) → ((¬ x1j81 = 49 → wj_Mo_findField_131 y Post a0 s_j81 x1j81 x3j81 x5j81 (x5j81 / 8) x_11 0) ∧ (x1j81 = 49 → wj_Mo_findField_126 y Post a0 s_j81 x1j81 x3j81 x5j81 (x5j81 / 8) x_11)))))) ∧ (¬ (0 ≤ x5j81) → wu_Mo_fails y (fun (s_31 : St) (r_30 : Int32) => Post s_31 r_30) s_j81 a0 51 12))
def wb_Mo_findField_34 (y : Ly) (Post : St → Int32 → Prop) (K_34 : St → Int32 → Int32 → Int32 → Int32 → Int32 → Prop) (a0 : Nat) (s_h34 : St) (x1h34 : Int32) (x2h34 : Int32) (x3h34 : Int32) (x5h34 : Int32) (x6h34 : Int32) : Prop := ((x6h34 < 0 → wj_Mo_findField_81 y Post a0 s_h34 x1h34 x3h34 x5h34) ∧ (¬ (x6h34 < 0) → ((0 ≤ x5h34 → wj_Mo_findField_81 y Post a0 s_h34 x1h34 x3h34 x5h34) ∧ (¬ (0 ≤ x5h34) → ∃ b_32 : Nat, sO s_h34 a0 45 = some b_32 ∧ cl b_32 = 13 ∧ xA y s_h34 b_32 32 x2h34 (fun x_35 : Int32 => xA y s_h34 b_32 33 x2h34 (fun x_36 : Int32 => wu_Mo_fieldByFaces y (fun (s_38 : St) (r_37 : Int32) => wu_Mo_parentOf y (fun (s_40 : St) (r_39 : Int32) => K_34 s_40 x1h34 x2h34 x3h34 r_37 r_39) s_38 a0 x6h34) s_h34 a0 x6h34 x_35 x_36))))))
def wl_Mo_findField_34 (y : Ly) (Post : St → Int32 → Prop) (a0 : Nat) (s_h34 : St) (x1h34 : Int32) (x2h34 : Int32) (x3h34 : Int32) (x5h34 : Int32) (x6h34 : Int32) : Prop := ∃ (I : St → Int32 → Int32 → Int32 → Int32 → Int32 → Prop) (μ : St → Int32 → Int32 → Int32 → Int32 → Int32 → Nat), I s_h34 x1h34 x2h34 x3h34 x5h34 x6h34 ∧ ∀ (u : St) (t0 : Int32) (t1 : Int32) (t2 : Int32) (t3 : Int32) (t4 : Int32), I u t0 t1 t2 t3 t4 → wb_Mo_findField_34 y Post (fun z t0q t1q t2q t3q t4q => I z t0q t1q t2q t3q t4q ∧ μ z t0q t1q t2q t3q t4q < μ u t0 t1 t2 t3 t4) a0 u t0 t1 t2 t3 t4
def wu_Mo_findField (y : Ly) (Post : St → Int32 → Prop) (σ : St) (a0 : Nat) (v1 : Int32) (v2 : Int32) (v3 : Int32) : Prop := ∃ b_1 : Nat, sO σ a0 45 = some b_1 ∧ cl b_1 = 13 ∧ xA y σ b_1 31 v2 (fun x_4 : Int32 => wu_Mo_findLinked y (fun (s_6 : St) (r_5 : Int32) => ((0 ≤ r_5 → xP (uJ s_6 a0 82 0) (fun s_7 : St => wl_Mo_findField_34 y Post a0 s_7 v1 v2 v3 (-1) r_5)) ∧ (¬ (0 ≤ r_5) → Post s_6 (-1)))) σ a0 x_4)
set_option maxHeartbeats 4000000 in
set_option maxRecDepth 100000 in
theorem cu_Mo_findField (l : Launch) (D : va_G) (g : Nat → ClassId) (ad : Nat → Nat) (y : Ly) (Post : St → Int32 → Prop) (σ : St) (a0 : Nat) (v1 : Int32) (v2 : Int32) (v3 : Int32) (sz : Nat) (h_a0 : cl a0 = 14) (h : wu_Mo_findField y Post σ a0 v1 v2 v3) : Met l y_Mo_findField (mw y_Mo_findField b_Mo_findField 11 (some .int)) ru_Mo_findField (PC g D [] [.ref (ad a0), .int v1, .int v2, .int v3] sz (ws g ad y σ)) (va_Qi (fun (r : Int32) (u : St) => Post u r) (QW D (va_A (ws g ad y σ) sz) (fun u => ws g ad y u)) (va_A (ws g ad y σ) sz)) 0 0 (va_A (ws g ad y σ) sz) := by
  refine ofI (by decide +kernel) (Nat.le_of_ble_eq_true rfl) ?_
  intro p e s m args below meth c A Q ls H locs G hsz hP hD hS hl hret
  subst hsz
  have hl : lv_has ls 11 [(0, .ref (ad a0)), (1, .int v1), (2, .int v2), (3, .int v3)] := hl
  unfold wu_Mo_findField at h
  refine lv_aload_n G.1 G.2.1 d_Mo_findField_0 rfl (lv_at hl 0 rfl) ?_
  refine lv_aload_n G.1 G.2.1 d_Mo_findField_1 rfl (lv_at hl 0 rfl) ?_
  obtain ⟨b_1, e_2, c_3, h⟩ := h
  refine ugf (v := .ref (ad b_1)) G hP h_a0 iMo rfl 45 (by decide) rfl q3109 rfl (by show va_rf ((sO σ a0 45).map ad) = _; rw [e_2]; rfl) d_Mo_findField_2 ?_
  refine ugfN (v := .ref (yP y b_1 31)) G hP c_3 iMw rfl 31 (by decide) rfl q2766 rfl rfl d_Mo_findField_5 ?_
  refine lv_iload_n G.1 G.2.1 d_Mo_findField_8 rfl (lv_at hl 2 rfl) ?_
  refine uiald G hP (kdp c_3 rfl) (typ c_3 rfl) h d_Mo_findField_9 (fun x_4 h => ?_)
  refine ucVi (As := [.int x_4]) (rest := []) G hP hD hS (cu_Mo_findLinked l D g ad y _ σ a0 x_4 H.size h_a0 h) w9_Mo_findLinked q3855 ⟨Nat.le_of_ble_eq_true rfl, Nat.le_of_ble_eq_true rfl⟩ rfl rfl h_a0 (q := (RMo, TMo, 131)) rfl rfl hl.1 rfl (Nat.le_of_ble_eq_true rfl) rfl ⟨Nat.le_refl _, Nat.le_refl _⟩ d_Mo_findField_10 (fun r_5 s_6 H locs h hP hD hS => ?_)
  refine lv_istore (lv' := [(4, .int r_5), (0, .ref (ad a0)), (1, .int v1), (2, .int v2), (3, .int v3)]) G.1 G.2.1 d_Mo_findField_13 hl (by decide) rfl (fun ls hl => ?_)
  refine lv_iload G.1 G.2.1 d_Mo_findField_15 (lv_at hl 0 rfl) ?_
  refine lv_if_ge (tgt := 22) G.1 G.2.1 d_Mo_findField_17 (by decide) (fun c17 => ?_) (fun c17 => ?_)
  · skip
    have h := h.1 c17
    refine lv_iconst (v := (-1)) G.1 G.2.1 d_Mo_findField_22 (by decide) ?_
    refine W.eq (g2 := F0 m 23 ls [.int (-1)]) rfl ?_
    refine lv_istore (lv' := [(5, .int (-1)), (4, .int r_5), (0, .ref (ad a0)), (1, .int v1), (2, .int v2), (3, .int v3)]) G.1 G.2.1 d_Mo_findField_23 hl (by decide) rfl (fun ls hl => ?_)
    refine lv_aload_n G.1 G.2.1 d_Mo_findField_25 rfl (lv_at hl 2 rfl) ?_
    refine lv_lconst (v := 0) G.1 G.2.1 d_Mo_findField_26 (by decide) ?_
    refine upf G hP hD hS h 82 putJ h_a0 iMo tMo tMo_ok nMo rfl (by decide) rfl q3146 rfl rfl fJ rfl rfl d_Mo_findField_27 (fun s_7 H locs h hP hD hS => ?_)
    refine lv_iload G.1 G.2.1 d_Mo_findField_30 (lv_at hl 1 rfl) ?_
    refine lv_istore (lv' := [(6, .int r_5), (5, .int (-1)), (4, .int r_5), (0, .ref (ad a0)), (1, .int v1), (2, .int v2), (3, .int v3)]) G.1 G.2.1 d_Mo_findField_32 hl (by decide) rfl (fun ls hl => ?_)
    unfold wl_Mo_findField_34 at h
    obtain ⟨I_34, μ_34, hI_34, hB_34⟩ := h
    have L_34 : ∀ (n_34 : Nat) (s_h34 : St) (x1h34 : Int32) (x2h34 : Int32) (x3h34 : Int32) (x5h34 : Int32) (x6h34 : Int32), μ_34 s_h34 x1h34 x2h34 x3h34 x5h34 x6h34 < n_34 → I_34 s_h34 x1h34 x2h34 x3h34 x5h34 x6h34 → ∀ (H : Heap) (locs : List Loc), va_P D CL (ws g ad y s_h34) H → va_D A (ws g ad y s_h34) → va_S A s.heap H locs → ∀ ls, lv_has ls 11 [(0, .ref (ad a0)), (1, .int x1h34), (2, .int x2h34), (3, .int x3h34), (5, .int x5h34), (6, .int x6h34)] → W p l e ru_Mo_findField s m args below meth c H locs 0 0 Q (F0 m 34 ls []) := by
      intro n_34
      induction n_34 with
      | zero => intro s_h34 x1h34 x2h34 x3h34 x5h34 x6h34 hμ; exact absurd hμ (Nat.not_lt_zero _)
      | succ n_34 ih_34 =>
        intro s_h34 x1h34 x2h34 x3h34 x5h34 x6h34 hμ_34 hJ H locs hP hD hS ls hl
        obtain ⟨K_34, hK_34, h⟩ : ∃ K : St → Int32 → Int32 → Int32 → Int32 → Int32 → Prop, (∀ z (t0 : Int32) (t1 : Int32) (t2 : Int32) (t3 : Int32) (t4 : Int32), K z t0 t1 t2 t3 t4 → I_34 z t0 t1 t2 t3 t4 ∧ μ_34 z t0 t1 t2 t3 t4 < μ_34 s_h34 x1h34 x2h34 x3h34 x5h34 x6h34) ∧ wb_Mo_findField_34 y Post K a0 s_h34 x1h34 x2h34 x3h34 x5h34 x6h34 := ⟨_, fun _ _ _ _ _ _ h => h, hB_34 s_h34 x1h34 x2h34 x3h34 x5h34 x6h34 hJ⟩
        unfold wb_Mo_findField_34 at h
        refine lv_iload G.1 G.2.1 d_Mo_findField_34 (lv_at hl 5 rfl) ?_
        have J_81 : ∀ (s_j81 : St) (x1j81 : Int32) (x3j81 : Int32) (x5j81 : Int32) (H : Heap) (locs : List Loc), wj_Mo_findField_81 y Post a0 s_j81 x1j81 x3j81 x5j81 → va_P D CL (ws g ad y s_j81) H → va_D A (ws g ad y s_j81) → va_S A s.heap H locs → ∀ ls, lv_has ls 11 [(0, .ref (ad a0)), (1, .int x1j81), (3, .int x3j81), (5, .int x5j81)] → W p l e ru_Mo_findField s m args below meth c H locs 0 0 Q (F0 m 81 ls []) := by
          intro s_j81 x1j81 x3j81 x5j81 H locs h hP hD hS ls hl
          unfold wj_Mo_findField_81 at h
          refine lv_iload G.1 G.2.1 d_Mo_findField_81 (lv_at hl 3 rfl) ?_
          refine lv_if_ge (tgt := 95) G.1 G.2.1 d_Mo_findField_83 (by decide) (fun c83 => ?_) (fun c83 => ?_)
          · skip
            have h := h.1 c83
            refine lv_iload G.1 G.2.1 d_Mo_findField_95 (lv_at hl 3 rfl) ?_
            refine lv_bipush (v := 8) G.1 G.2.1 d_Mo_findField_97 (by decide) ?_
            refine lv_idiv G.1 G.2.1 d_Mo_findField_99 (by decide) ?_
            refine lv_istore (lv' := [(6, .int (x5j81 / 8)), (0, .ref (ad a0)), (1, .int x1j81), (3, .int x3j81), (5, .int x5j81)]) G.1 G.2.1 d_Mo_findField_100 hl (by decide) rfl (fun ls hl => ?_)
            refine lv_aload_n G.1 G.2.1 d_Mo_findField_102 rfl (lv_at hl 1 rfl) ?_
            obtain ⟨b_8, e_9, c_10, h⟩ := h
            refine ugf (v := .ref (ad b_8)) G hP h_a0 iMo rfl 45 (by decide) rfl q3109 rfl (by show va_rf ((sO s_j81 a0 45).map ad) = _; rw [e_9]; rfl) d_Mo_findField_103 ?_
            refine ugfN (v := .ref (yP y b_8 14)) G hP c_10 iMw rfl 14 (by decide) rfl q2732 rfl rfl d_Mo_findField_106 ?_
            refine lv_iload G.1 G.2.1 d_Mo_findField_109 (lv_at hl 4 rfl) ?_
            refine uiald G hP (kdp c_10 rfl) (typ c_10 rfl) h d_Mo_findField_111 (fun x_11 h => ?_)
            refine W.eq (g2 := F0 m 112 ls [.int x_11]) rfl ?_
            refine lv_istore (lv' := [(7, .int x_11), (6, .int (x5j81 / 8)), (0, .ref (ad a0)), (1, .int x1j81), (3, .int x3j81), (5, .int x5j81)]) G.1 G.2.1 d_Mo_findField_112 hl (by decide) rfl (fun ls hl => ?_)
            refine lv_iload_n G.1 G.2.1 d_Mo_findField_114 rfl (lv_at hl 3 rfl) ?_
            refine lv_bipush (v := 48) G.1 G.2.1 d_Mo_findField_115 (by decide) ?_
            have J_131 : ∀ (s_j131 : St) (x1j131 : Int32) (x3j131 : Int32) (x5j131 : Int32) (x6j131 : Int32) (x7j131 : Int32) (z0j131 : Int32) (H : Heap) (locs : List Loc), wj_Mo_findField_131 y Post a0 s_j131 x1j131 x3j131 x5j131 x6j131 x7j131 z0j131 → va_P D CL (ws g ad y s_j131) H → va_D A (ws g ad y s_j131) → va_S A s.heap H locs → ∀ ls, lv_has ls 11 [(0, .ref (ad a0)), (1, .int x1j131), (3, .int x3j131), (5, .int x5j131), (6, .int x6j131), (7, .int x7j131)] → W p l e ru_Mo_findField s m args below meth c H locs 0 0 Q (F0 m 131 ls [.int z0j131]) := by
              intro s_j131 x1j131 x3j131 x5j131 x6j131 x7j131 z0j131 H locs h hP hD hS ls hl
              unfold wj_Mo_findField_131 at h
              refine lv_istore (lv' := [(8, .int z0j131), (0, .ref (ad a0)), (1, .int x1j131), (3, .int x3j131), (5, .int x5j131), (6, .int x6j131), (7, .int x7j131)]) G.1 G.2.1 d_Mo_findField_131 hl (by decide) rfl (fun ls hl => ?_)
              refine lv_iload G.1 G.2.1 d_Mo_findField_133 (lv_at hl 5 rfl) ?_
              refine lv_iload_n G.1 G.2.1 d_Mo_findField_135 rfl (lv_at hl 3 rfl) ?_
              refine lv_bipush (v := 12) G.1 G.2.1 d_Mo_findField_136 (by decide) ?_
              refine lv_idiv G.1 G.2.1 d_Mo_findField_138 (by decide) ?_
              have J_147 : ∀ (s_j147 : St) (x1j147 : Int32) (x3j147 : Int32) (x5j147 : Int32) (x6j147 : Int32) (x7j147 : Int32) (x8j147 : Int32) (z0j147 : Int32) (H : Heap) (locs : List Loc), wj_Mo_findField_147 y Post a0 s_j147 x1j147 x3j147 x5j147 x6j147 x7j147 x8j147 z0j147 → va_P D CL (ws g ad y s_j147) H → va_D A (ws g ad y s_j147) → va_S A s.heap H locs → ∀ ls, lv_has ls 11 [(0, .ref (ad a0)), (1, .int x1j147), (3, .int x3j147), (5, .int x5j147), (6, .int x6j147), (7, .int x7j147), (8, .int x8j147)] → W p l e ru_Mo_findField s m args below meth c H locs 0 0 Q (F0 m 147 ls [.int z0j147]) := by
                intro s_j147 x1j147 x3j147 x5j147 x6j147 x7j147 x8j147 z0j147 H locs h hP hD hS ls hl
                unfold wj_Mo_findField_147 at h
                refine lv_istore (lv' := [(9, .int z0j147), (0, .ref (ad a0)), (1, .int x1j147), (3, .int x3j147), (5, .int x5j147), (6, .int x6j147), (7, .int x7j147), (8, .int x8j147)]) G.1 G.2.1 d_Mo_findField_147 hl (by decide) rfl (fun ls hl => ?_)
                refine lv_aload_n G.1 G.2.1 d_Mo_findField_149 rfl (lv_at hl 1 rfl) ?_
                refine lv_iconst (v := 5) G.1 G.2.1 d_Mo_findField_150 (by decide) ?_
                refine ucVi (As := [.int 5]) (rest := []) G hP hD hS (cu_Mo_isOff l D g ad y _ s_j147 a0 5 H.size h_a0 h) w9_Mo_isOff q3579 ⟨Nat.le_of_ble_eq_true rfl, Nat.le_of_ble_eq_true rfl⟩ rfl rfl h_a0 (q := (RMo, TMo, 131)) rfl rfl hl.1 rfl (Nat.le_of_ble_eq_true rfl) rfl ⟨Nat.le_refl _, Nat.le_refl _⟩ d_Mo_findField_151 (fun r_12 s_13 H locs h hP hD hS => ?_)
                have J_178 : ∀ (s_j178 : St) (x1j178 : Int32) (x3j178 : Int32) (x5j178 : Int32) (x6j178 : Int32) (x7j178 : Int32) (x8j178 : Int32) (x9j178 : Int32) (H : Heap) (locs : List Loc), wj_Mo_findField_178 y Post a0 s_j178 x1j178 x3j178 x5j178 x6j178 x7j178 x8j178 x9j178 → va_P D CL (ws g ad y s_j178) H → va_D A (ws g ad y s_j178) → va_S A s.heap H locs → ∀ ls, lv_has ls 11 [(0, .ref (ad a0)), (1, .int x1j178), (3, .int x3j178), (5, .int x5j178), (6, .int x6j178), (7, .int x7j178), (8, .int x8j178), (9, .int x9j178)] → W p l e ru_Mo_findField s m args below meth c H locs 0 0 Q (F0 m 178 ls []) := by
                  intro s_j178 x1j178 x3j178 x5j178 x6j178 x7j178 x8j178 x9j178 H locs h hP hD hS ls hl
                  unfold wj_Mo_findField_178 at h
                  refine lv_iload G.1 G.2.1 d_Mo_findField_178 (lv_at hl 5 rfl) ?_
                  refine lv_iconst (v := 1) G.1 G.2.1 d_Mo_findField_180 (by decide) ?_
                  refine lv_iand G.1 G.2.1 d_Mo_findField_181 ?_
                  have J_190 : ∀ (s_j190 : St) (x1j190 : Int32) (x3j190 : Int32) (x5j190 : Int32) (x6j190 : Int32) (x7j190 : Int32) (x8j190 : Int32) (x9j190 : Int32) (z0j190 : Int32) (H : Heap) (locs : List Loc), wj_Mo_findField_190 y Post a0 s_j190 x1j190 x3j190 x5j190 x6j190 x7j190 x8j190 x9j190 z0j190 → va_P D CL (ws g ad y s_j190) H → va_D A (ws g ad y s_j190) → va_S A s.heap H locs → ∀ ls, lv_has ls 11 [(0, .ref (ad a0)), (1, .int x1j190), (3, .int x3j190), (5, .int x5j190), (6, .int x6j190), (7, .int x7j190), (8, .int x8j190), (9, .int x9j190)] → W p l e ru_Mo_findField s m args below meth c H locs 0 0 Q (F0 m 190 ls [.int z0j190]) := by
                    intro s_j190 x1j190 x3j190 x5j190 x6j190 x7j190 x8j190 x9j190 z0j190 H locs h hP hD hS ls hl
                    unfold wj_Mo_findField_190 at h
                    refine lv_iload G.1 G.2.1 d_Mo_findField_190 (lv_at hl 6 rfl) ?_
                    have J_215 : ∀ (s_j215 : St) (H : Heap) (locs : List Loc), wj_Mo_findField_215 y Post a0 s_j215 → va_P D CL (ws g ad y s_j215) H → va_D A (ws g ad y s_j215) → va_S A s.heap H locs → ∀ ls, lv_has ls 11 [(0, .ref (ad a0))] → W p l e ru_Mo_findField s m args below meth c H locs 0 0 Q (F0 m 215 ls []) := by
                      intro s_j215 H locs h hP hD hS ls hl
                      unfold wj_Mo_findField_215 at h
                      refine lv_aload_n G.1 G.2.1 d_Mo_findField_215 rfl (lv_at hl 0 rfl) ?_
                      refine lv_bipush (v := 55) G.1 G.2.1 d_Mo_findField_216 (by decide) ?_
                      refine lv_bipush (v := 15) G.1 G.2.1 d_Mo_findField_218 (by decide) ?_
                      refine ucVi (As := [.int 55, .int 15]) (rest := []) G hP hD hS (cu_Mo_fails l D g ad y _ s_j215 a0 55 15 H.size h_a0 h) w9_Mo_fails q3859 ⟨Nat.le_of_ble_eq_true rfl, Nat.le_of_ble_eq_true rfl⟩ rfl rfl h_a0 (q := (RMo, TMo, 131)) rfl rfl hl.1 rfl (Nat.le_of_ble_eq_true rfl) rfl ⟨Nat.le_refl _, Nat.le_refl _⟩ d_Mo_findField_220 (fun r_14 s_15 H locs h hP hD hS => ?_)
                      exact hret _ _ _ _ _ _ _ ls h hP hD hS (Nat.le_refl _) (Nat.le_refl _) d_Mo_findField_223
                    refine lv_icmp_ne (tgt := 215) G.1 G.2.1 d_Mo_findField_192 (by decide) (fun c192 => ?_) (fun c192 => ?_)
                    · skip
                      have h := h.1 c192
                      exact J_215 s_j190 H locs h hP hD hS ls (lv_sub hl [0] rfl)
                    · skip
                      have h := h.2 c192
                      refine lv_iload G.1 G.2.1 d_Mo_findField_195 (lv_at hl 6 rfl) ?_
                      have J_224 : ∀ (s_j224 : St) (x1j224 : Int32) (x3j224 : Int32) (x5j224 : Int32) (x7j224 : Int32) (x8j224 : Int32) (x9j224 : Int32) (H : Heap) (locs : List Loc), wj_Mo_findField_224 y Post a0 s_j224 x1j224 x3j224 x5j224 x7j224 x8j224 x9j224 → va_P D CL (ws g ad y s_j224) H → va_D A (ws g ad y s_j224) → va_S A s.heap H locs → ∀ ls, lv_has ls 11 [(0, .ref (ad a0)), (1, .int x1j224), (3, .int x3j224), (5, .int x5j224), (7, .int x7j224), (8, .int x8j224), (9, .int x9j224)] → W p l e ru_Mo_findField s m args below meth c H locs 0 0 Q (F0 m 224 ls []) := by
                        intro s_j224 x1j224 x3j224 x5j224 x7j224 x8j224 x9j224 H locs h hP hD hS ls hl
                        unfold wj_Mo_findField_224 at h
                        refine lv_iload_n G.1 G.2.1 d_Mo_findField_224 rfl (lv_at hl 1 rfl) ?_
                        refine lv_bipush (v := 47) G.1 G.2.1 d_Mo_findField_225 (by decide) ?_
                        have J_241 : ∀ (s_j241 : St) (x3j241 : Int32) (x5j241 : Int32) (x7j241 : Int32) (x8j241 : Int32) (x9j241 : Int32) (z0j241 : Int32) (H : Heap) (locs : List Loc), wj_Mo_findField_241 y Post a0 s_j241 x3j241 x5j241 x7j241 x8j241 x9j241 z0j241 → va_P D CL (ws g ad y s_j241) H → va_D A (ws g ad y s_j241) → va_S A s.heap H locs → ∀ ls, lv_has ls 11 [(0, .ref (ad a0)), (3, .int x3j241), (5, .int x5j241), (7, .int x7j241), (8, .int x8j241), (9, .int x9j241)] → W p l e ru_Mo_findField s m args below meth c H locs 0 0 Q (F0 m 241 ls [.int z0j241]) := by
                          intro s_j241 x3j241 x5j241 x7j241 x8j241 x9j241 z0j241 H locs h hP hD hS ls hl
                          unfold wj_Mo_findField_241 at h
                          refine lv_istore (lv' := [(10, .int z0j241), (0, .ref (ad a0)), (3, .int x3j241), (5, .int x5j241), (7, .int x7j241), (8, .int x8j241), (9, .int x9j241)]) G.1 G.2.1 d_Mo_findField_241 hl (by decide) rfl (fun ls hl => ?_)
                          refine lv_aload_n G.1 G.2.1 d_Mo_findField_243 rfl (lv_at hl 1 rfl) ?_
                          refine lv_bipush (v := 6) G.1 G.2.1 d_Mo_findField_244 (by decide) ?_
                          refine ucVi (As := [.int 6]) (rest := []) G hP hD hS (cu_Mo_isOff l D g ad y _ s_j241 a0 6 H.size h_a0 h) w9_Mo_isOff q3579 ⟨Nat.le_of_ble_eq_true rfl, Nat.le_of_ble_eq_true rfl⟩ rfl rfl h_a0 (q := (RMo, TMo, 131)) rfl rfl hl.1 rfl (Nat.le_of_ble_eq_true rfl) rfl ⟨Nat.le_refl _, Nat.le_refl _⟩ d_Mo_findField_246 (fun r_16 s_17 H locs h hP hD hS => ?_)
                          have J_306 : ∀ (s_j306 : St) (x5j306 : Int32) (H : Heap) (locs : List Loc), wj_Mo_findField_306 y Post a0 s_j306 x5j306 → va_P D CL (ws g ad y s_j306) H → va_D A (ws g ad y s_j306) → va_S A s.heap H locs → ∀ ls, lv_has ls 11 [(5, .int x5j306)] → W p l e ru_Mo_findField s m args below meth c H locs 0 0 Q (F0 m 306 ls []) := by
                            intro s_j306 x5j306 H locs h hP hD hS ls hl
                            unfold wj_Mo_findField_306 at h
                            refine lv_iload G.1 G.2.1 d_Mo_findField_306 (lv_at hl 0 rfl) ?_
                            exact hret _ _ _ _ _ _ _ ls h hP hD hS (Nat.le_refl _) (Nat.le_refl _) d_Mo_findField_308
                          refine lv_if_ne (tgt := 306) G.1 G.2.1 d_Mo_findField_249 (by decide) (fun c249 => ?_) (fun c249 => ?_)
                          · skip
                            have h := h.1 c249
                            exact J_306 s_17 x5j241 H locs h hP hD hS ls (lv_sub hl [3] rfl)
                          · skip
                            have h := h.2 c249
                            refine lv_iload G.1 G.2.1 d_Mo_findField_252 (lv_at hl 0 rfl) ?_
                            refine lv_if_eq (tgt := 306) G.1 G.2.1 d_Mo_findField_254 (by decide) (fun c254 => ?_) (fun c254 => ?_)
                            · skip
                              have h := h.1 c254
                              exact J_306 s_17 x5j241 H locs h hP hD hS ls (lv_sub hl [3] rfl)
                            · skip
                              have h := h.2 c254
                              refine lv_iload G.1 G.2.1 d_Mo_findField_257 (lv_at hl 4 rfl) ?_
                              refine lv_iconst (v := 2) G.1 G.2.1 d_Mo_findField_259 (by decide) ?_
                              refine lv_iand G.1 G.2.1 d_Mo_findField_260 ?_
                              refine lv_if_eq (tgt := 306) G.1 G.2.1 d_Mo_findField_261 (by decide) (fun c261 => ?_) (fun c261 => ?_)
                              · skip
                                have h := h.1 c261
                                exact J_306 s_17 x5j241 H locs h hP hD hS ls (lv_sub hl [3] rfl)
                              · skip
                                have h := h.2 c261
                                refine W.eq (g2 := F0 m 264 ls []) rfl ?_
                                refine lv_iload G.1 G.2.1 d_Mo_findField_264 (lv_at hl 6 rfl) ?_
                                have J_297 : ∀ (s_j297 : St) (H : Heap) (locs : List Loc), wj_Mo_findField_297 y Post a0 s_j297 → va_P D CL (ws g ad y s_j297) H → va_D A (ws g ad y s_j297) → va_S A s.heap H locs → ∀ ls, lv_has ls 11 [(0, .ref (ad a0))] → W p l e ru_Mo_findField s m args below meth c H locs 0 0 Q (F0 m 297 ls []) := by
                                  intro s_j297 H locs h hP hD hS ls hl
                                  unfold wj_Mo_findField_297 at h
                                  refine lv_aload_n G.1 G.2.1 d_Mo_findField_297 rfl (lv_at hl 0 rfl) ?_
                                  refine lv_bipush (v := 54) G.1 G.2.1 d_Mo_findField_298 (by decide) ?_
                                  refine lv_bipush (v := 14) G.1 G.2.1 d_Mo_findField_300 (by decide) ?_
                                  refine ucVi (As := [.int 54, .int 14]) (rest := []) G hP hD hS (cu_Mo_fails l D g ad y _ s_j297 a0 54 14 H.size h_a0 h) w9_Mo_fails q3859 ⟨Nat.le_of_ble_eq_true rfl, Nat.le_of_ble_eq_true rfl⟩ rfl rfl h_a0 (q := (RMo, TMo, 131)) rfl rfl hl.1 rfl (Nat.le_of_ble_eq_true rfl) rfl ⟨Nat.le_refl _, Nat.le_refl _⟩ d_Mo_findField_302 (fun r_18 s_19 H locs h hP hD hS => ?_)
                                  exact hret _ _ _ _ _ _ _ ls h hP hD hS (Nat.le_refl _) (Nat.le_refl _) d_Mo_findField_305
                                refine lv_if_ne (tgt := 297) G.1 G.2.1 d_Mo_findField_266 (by decide) (fun c266 => ?_) (fun c266 => ?_)
                                · skip
                                  have h := h.1 c266
                                  exact J_297 s_17 H locs h hP hD hS ls (lv_sub hl [1] rfl)
                                · skip
                                  have h := h.2 c266
                                  refine lv_aload_n G.1 G.2.1 d_Mo_findField_269 rfl (lv_at hl 1 rfl) ?_
                                  obtain ⟨b_20, e_21, c_22, h⟩ := h
                                  refine ugf (v := .ref (ad b_20)) G hP h_a0 iMo rfl 45 (by decide) rfl q3109 rfl (by show va_rf ((sO s_17 a0 45).map ad) = _; rw [e_21]; rfl) d_Mo_findField_270 ?_
                                  refine ugfN (v := .ref (yP y b_20 18)) G hP c_22 iMw rfl 18 (by decide) rfl q2740 rfl rfl d_Mo_findField_273 ?_
                                  refine lv_iload_n G.1 G.2.1 d_Mo_findField_276 rfl (lv_at hl 2 rfl) ?_
                                  refine uiald G hP (kdp c_22 rfl) (typ c_22 rfl) h d_Mo_findField_277 (fun x_23 h => ?_)
                                  refine lv_iload G.1 G.2.1 d_Mo_findField_278 (lv_at hl 5 rfl) ?_
                                  have J_294 : ∀ (s_j294 : St) (x5j294 : Int32) (z0j294 : Int32) (z1j294 : Int32) (H : Heap) (locs : List Loc), wj_Mo_findField_294 y Post a0 s_j294 x5j294 z0j294 z1j294 → va_P D CL (ws g ad y s_j294) H → va_D A (ws g ad y s_j294) → va_S A s.heap H locs → ∀ ls, lv_has ls 11 [(0, .ref (ad a0)), (5, .int x5j294)] → W p l e ru_Mo_findField s m args below meth c H locs 0 0 Q (F0 m 294 ls [.int z1j294, .int z0j294]) := by
                                    intro s_j294 x5j294 z0j294 z1j294 H locs h hP hD hS ls hl
                                    unfold wj_Mo_findField_294 at h
                                    refine lv_icmp_eq (tgt := 306) G.1 G.2.1 d_Mo_findField_294 (by decide) (fun c294 => ?_) (fun c294 => ?_)
                                    · skip
                                      have h := h.1 c294
                                      exact J_306 s_j294 x5j294 H locs h hP hD hS ls (lv_sub hl [1] rfl)
                                    · skip
                                      have h := h.2 c294
                                      exact J_297 s_j294 H locs h hP hD hS ls (lv_sub hl [0] rfl)
                                  refine lv_if_eq (tgt := 290) G.1 G.2.1 d_Mo_findField_280 (by decide) (fun c280 => ?_) (fun c280 => ?_)
                                  · skip
                                    have h := h.1 c280
                                    refine lv_aload_n G.1 G.2.1 d_Mo_findField_290 rfl (lv_at hl 1 rfl) ?_
                                    refine ugf (v := .int (sV s_17 a0 6)) G hP h_a0 iMo rfl 6 (by decide) rfl q3070 rfl rfl d_Mo_findField_291 ?_
                                    exact J_294 s_17 x5j241 x_23 (sV s_17 a0 6) H locs h hP hD hS ls (lv_sub hl [1, 3] rfl)
                                  · skip
                                    have h := h.2 c280
                                    refine lv_aload_n G.1 G.2.1 d_Mo_findField_283 rfl (lv_at hl 1 rfl) ?_
                                    refine ugf (v := .int (sV s_17 a0 7)) G hP h_a0 iMo rfl 7 (by decide) rfl q3071 rfl rfl d_Mo_findField_284 ?_
                                    refine lv_goto (tgt := 294) G.1 G.2.1 d_Mo_findField_287 (by decide) ?_
                                    exact J_294 s_17 x5j241 x_23 (sV s_17 a0 7) H locs h hP hD hS ls (lv_sub hl [1, 3] rfl)
                        have J_236 : ∀ (s_j236 : St) (x3j236 : Int32) (x5j236 : Int32) (x7j236 : Int32) (x8j236 : Int32) (x9j236 : Int32) (H : Heap) (locs : List Loc), wj_Mo_findField_236 y Post a0 s_j236 x3j236 x5j236 x7j236 x8j236 x9j236 → va_P D CL (ws g ad y s_j236) H → va_D A (ws g ad y s_j236) → va_S A s.heap H locs → ∀ ls, lv_has ls 11 [(0, .ref (ad a0)), (3, .int x3j236), (5, .int x5j236), (7, .int x7j236), (8, .int x8j236), (9, .int x9j236)] → W p l e ru_Mo_findField s m args below meth c H locs 0 0 Q (F0 m 236 ls []) := by
                          intro s_j236 x3j236 x5j236 x7j236 x8j236 x9j236 H locs h hP hD hS ls hl
                          unfold wj_Mo_findField_236 at h
                          refine lv_iconst (v := 1) G.1 G.2.1 d_Mo_findField_236 (by decide) ?_
                          refine lv_goto (tgt := 241) G.1 G.2.1 d_Mo_findField_237 (by decide) ?_
                          exact J_241 s_j236 x3j236 x5j236 x7j236 x8j236 x9j236 1 H locs h hP hD hS ls (lv_sub hl [0, 1, 2, 3, 4, 5] rfl)
                        refine lv_icmp_eq (tgt := 236) G.1 G.2.1 d_Mo_findField_227 (by decide) (fun c227 => ?_) (fun c227 => ?_)
                        · skip
                          have h := h.1 c227
                          exact J_236 s_j224 x3j224 x5j224 x7j224 x8j224 x9j224 H locs h hP hD hS ls (lv_sub hl [0, 2, 3, 4, 5, 6] rfl)
                        · skip
                          have h := h.2 c227
                          refine lv_iload_n G.1 G.2.1 d_Mo_findField_230 rfl (lv_at hl 1 rfl) ?_
                          refine lv_bipush (v := 49) G.1 G.2.1 d_Mo_findField_231 (by decide) ?_
                          refine lv_icmp_ne (tgt := 240) G.1 G.2.1 d_Mo_findField_233 (by decide) (fun c233 => ?_) (fun c233 => ?_)
                          · skip
                            have h := h.1 c233
                            refine lv_iconst (v := 0) G.1 G.2.1 d_Mo_findField_240 (by decide) ?_
                            exact J_241 s_j224 x3j224 x5j224 x7j224 x8j224 x9j224 0 H locs h hP hD hS ls (lv_sub hl [0, 2, 3, 4, 5, 6] rfl)
                          · skip
                            have h := h.2 c233
                            exact J_236 s_j224 x3j224 x5j224 x7j224 x8j224 x9j224 H locs h hP hD hS ls (lv_sub hl [0, 2, 3, 4, 5, 6] rfl)
                      refine lv_if_ne (tgt := 224) G.1 G.2.1 d_Mo_findField_197 (by decide) (fun c197 => ?_) (fun c197 => ?_)
                      · skip
                        have h := h.1 c197
                        exact J_224 s_j190 x1j190 x3j190 x5j190 x7j190 x8j190 x9j190 H locs h hP hD hS ls (lv_sub hl [0, 1, 2, 3, 5, 6, 7] rfl)
                      · skip
                        have h := h.2 c197
                        refine lv_aload_n G.1 G.2.1 d_Mo_findField_200 rfl (lv_at hl 0 rfl) ?_
                        obtain ⟨b_24, e_25, c_26, h⟩ := h
                        refine ugf (v := .ref (ad b_24)) G hP h_a0 iMo rfl 45 (by decide) rfl q3109 rfl (by show va_rf ((sO s_j190 a0 45).map ad) = _; rw [e_25]; rfl) d_Mo_findField_201 ?_
                        refine ugfN (v := .ref (yP y b_24 5)) G hP c_26 iMw rfl 5 (by decide) rfl q2714 rfl rfl d_Mo_findField_204 ?_
                        refine lv_iload G.1 G.2.1 d_Mo_findField_207 (lv_at hl 4 rfl) ?_
                        refine uiald G hP (kdp c_26 rfl) (typ c_26 rfl) h d_Mo_findField_209 (fun x_27 h => ?_)
                        refine lv_iconst (v := 4) G.1 G.2.1 d_Mo_findField_210 (by decide) ?_
                        refine lv_iand G.1 G.2.1 d_Mo_findField_211 ?_
                        refine W.eq (g2 := F0 m 212 ls [.int (x_27 &&& 4)]) rfl ?_
                        refine lv_if_eq (tgt := 224) G.1 G.2.1 d_Mo_findField_212 (by decide) (fun c212 => ?_) (fun c212 => ?_)
                        · skip
                          have h := h.1 c212
                          exact J_224 s_j190 x1j190 x3j190 x5j190 x7j190 x8j190 x9j190 H locs h hP hD hS ls (lv_sub hl [0, 1, 2, 3, 5, 6, 7] rfl)
                        · skip
                          have h := h.2 c212
                          exact J_215 s_j190 H locs h hP hD hS ls (lv_sub hl [0] rfl)
                  refine lv_if_eq (tgt := 189) G.1 G.2.1 d_Mo_findField_182 (by decide) (fun c182 => ?_) (fun c182 => ?_)
                  · skip
                    have h := h.1 c182
                    refine lv_iconst (v := 0) G.1 G.2.1 d_Mo_findField_189 (by decide) ?_
                    exact J_190 s_j178 x1j178 x3j178 x5j178 x6j178 x7j178 x8j178 x9j178 0 H locs h hP hD hS ls (lv_sub hl [0, 1, 2, 3, 4, 5, 6, 7] rfl)
                  · skip
                    have h := h.2 c182
                    refine lv_iconst (v := 1) G.1 G.2.1 d_Mo_findField_185 (by decide) ?_
                    refine lv_goto (tgt := 190) G.1 G.2.1 d_Mo_findField_186 (by decide) ?_
                    exact J_190 s_j178 x1j178 x3j178 x5j178 x6j178 x7j178 x8j178 x9j178 1 H locs h hP hD hS ls (lv_sub hl [0, 1, 2, 3, 4, 5, 6, 7] rfl)
                refine lv_if_ne (tgt := 178) G.1 G.2.1 d_Mo_findField_154 (by decide) (fun c154 => ?_) (fun c154 => ?_)
                · skip
                  have h := h.1 c154
                  exact J_178 s_13 x1j147 x3j147 x5j147 x6j147 x7j147 x8j147 z0j147 H locs h hP hD hS ls (lv_sub hl [1, 2, 3, 4, 5, 6, 7, 0] rfl)
                · skip
                  have h := h.2 c154
                  refine lv_iload G.1 G.2.1 d_Mo_findField_157 (lv_at hl 6 rfl) ?_
                  refine lv_iconst (v := 4) G.1 G.2.1 d_Mo_findField_159 (by decide) ?_
                  refine lv_iand G.1 G.2.1 d_Mo_findField_160 ?_
                  refine lv_if_eq (tgt := 178) G.1 G.2.1 d_Mo_findField_161 (by decide) (fun c161 => ?_) (fun c161 => ?_)
                  · skip
                    have h := h.1 c161
                    exact J_178 s_13 x1j147 x3j147 x5j147 x6j147 x7j147 x8j147 z0j147 H locs h hP hD hS ls (lv_sub hl [1, 2, 3, 4, 5, 6, 7, 0] rfl)
                  · skip
                    have h := h.2 c161
                    refine lv_iload G.1 G.2.1 d_Mo_findField_164 (lv_at hl 0 rfl) ?_
                    refine lv_if_eq (tgt := 178) G.1 G.2.1 d_Mo_findField_166 (by decide) (fun c166 => ?_) (fun c166 => ?_)
                    · skip
                      have h := h.1 c166
                      exact J_178 s_13 x1j147 x3j147 x5j147 x6j147 x7j147 x8j147 z0j147 H locs h hP hD hS ls (lv_sub hl [1, 2, 3, 4, 5, 6, 7, 0] rfl)
                    · skip
                      have h := h.2 c166
                      refine W.eq (g2 := F0 m 169 ls []) rfl ?_
                      refine lv_aload_n G.1 G.2.1 d_Mo_findField_169 rfl (lv_at hl 1 rfl) ?_
                      refine lv_bipush (v := 53) G.1 G.2.1 d_Mo_findField_170 (by decide) ?_
                      refine lv_bipush (v := 14) G.1 G.2.1 d_Mo_findField_172 (by decide) ?_
                      refine ucVi (As := [.int 53, .int 14]) (rest := []) G hP hD hS (cu_Mo_fails l D g ad y _ s_13 a0 53 14 H.size h_a0 h) w9_Mo_fails q3859 ⟨Nat.le_of_ble_eq_true rfl, Nat.le_of_ble_eq_true rfl⟩ rfl rfl h_a0 (q := (RMo, TMo, 131)) rfl rfl hl.1 rfl (Nat.le_of_ble_eq_true rfl) rfl ⟨Nat.le_refl _, Nat.le_refl _⟩ d_Mo_findField_174 (fun r_28 s_29 H locs h hP hD hS => ?_)
                      exact hret _ _ _ _ _ _ _ ls h hP hD hS (Nat.le_refl _) (Nat.le_refl _) d_Mo_findField_177
              refine lv_icmp_eq (tgt := 146) G.1 G.2.1 d_Mo_findField_139 (by decide) (fun c139 => ?_) (fun c139 => ?_)
              · skip
                have h := h.1 c139
                refine lv_iconst (v := 0) G.1 G.2.1 d_Mo_findField_146 (by decide) ?_
                exact J_147 s_j131 x1j131 x3j131 x5j131 x6j131 x7j131 z0j131 0 H locs h hP hD hS ls (lv_sub hl [1, 2, 3, 4, 5, 6, 0] rfl)
              · skip
                have h := h.2 c139
                refine lv_iconst (v := 1) G.1 G.2.1 d_Mo_findField_142 (by decide) ?_
                refine lv_goto (tgt := 147) G.1 G.2.1 d_Mo_findField_143 (by decide) ?_
                exact J_147 s_j131 x1j131 x3j131 x5j131 x6j131 x7j131 z0j131 1 H locs h hP hD hS ls (lv_sub hl [1, 2, 3, 4, 5, 6, 0] rfl)
            have J_126 : ∀ (s_j126 : St) (x1j126 : Int32) (x3j126 : Int32) (x5j126 : Int32) (x6j126 : Int32) (x7j126 : Int32) (H : Heap) (locs : List Loc), wj_Mo_findField_126 y Post a0 s_j126 x1j126 x3j126 x5j126 x6j126 x7j126 → va_P D CL (ws g ad y s_j126) H → va_D A (ws g ad y s_j126) → va_S A s.heap H locs → ∀ ls, lv_has ls 11 [(0, .ref (ad a0)), (1, .int x1j126), (3, .int x3j126), (5, .int x5j126), (6, .int x6j126), (7, .int x7j126)] → W p l e ru_Mo_findField s m args below meth c H locs 0 0 Q (F0 m 126 ls []) := by
              intro s_j126 x1j126 x3j126 x5j126 x6j126 x7j126 H locs h hP hD hS ls hl
              unfold wj_Mo_findField_126 at h
              refine lv_iconst (v := 1) G.1 G.2.1 d_Mo_findField_126 (by decide) ?_
              refine lv_goto (tgt := 131) G.1 G.2.1 d_Mo_findField_127 (by decide) ?_
              exact J_131 s_j126 x1j126 x3j126 x5j126 x6j126 x7j126 1 H locs h hP hD hS ls (lv_sub hl [0, 1, 2, 3, 4, 5] rfl)
            refine lv_icmp_eq (tgt := 126) G.1 G.2.1 d_Mo_findField_117 (by decide) (fun c117 => ?_) (fun c117 => ?_)
            · skip
              have h := h.1 c117
              exact J_126 s_j81 x1j81 x3j81 x5j81 (x5j81 / 8) x_11 H locs h hP hD hS ls (lv_sub hl [2, 3, 4, 5, 1, 0] rfl)
            · skip
              have h := h.2 c117
              refine lv_iload_n G.1 G.2.1 d_Mo_findField_120 rfl (lv_at hl 3 rfl) ?_
              refine lv_bipush (v := 49) G.1 G.2.1 d_Mo_findField_121 (by decide) ?_
              refine lv_icmp_ne (tgt := 130) G.1 G.2.1 d_Mo_findField_123 (by decide) (fun c123 => ?_) (fun c123 => ?_)
              · skip
                have h := h.1 c123
                refine lv_iconst (v := 0) G.1 G.2.1 d_Mo_findField_130 (by decide) ?_
                exact J_131 s_j81 x1j81 x3j81 x5j81 (x5j81 / 8) x_11 0 H locs h hP hD hS ls (lv_sub hl [2, 3, 4, 5, 1, 0] rfl)
              · skip
                have h := h.2 c123
                exact J_126 s_j81 x1j81 x3j81 x5j81 (x5j81 / 8) x_11 H locs h hP hD hS ls (lv_sub hl [2, 3, 4, 5, 1, 0] rfl)
          · skip
            have h := h.2 c83
            refine lv_aload_n G.1 G.2.1 d_Mo_findField_86 rfl (lv_at hl 0 rfl) ?_
            refine lv_bipush (v := 51) G.1 G.2.1 d_Mo_findField_87 (by decide) ?_
            refine lv_bipush (v := 12) G.1 G.2.1 d_Mo_findField_89 (by decide) ?_
            refine ucVi (As := [.int 51, .int 12]) (rest := []) G hP hD hS (cu_Mo_fails l D g ad y _ s_j81 a0 51 12 H.size h_a0 h) w9_Mo_fails q3859 ⟨Nat.le_of_ble_eq_true rfl, Nat.le_of_ble_eq_true rfl⟩ rfl rfl h_a0 (q := (RMo, TMo, 131)) rfl rfl hl.1 rfl (Nat.le_of_ble_eq_true rfl) rfl ⟨Nat.le_refl _, Nat.le_refl _⟩ d_Mo_findField_91 (fun r_30 s_31 H locs h hP hD hS => ?_)
            exact hret _ _ _ _ _ _ _ ls h hP hD hS (Nat.le_refl _) (Nat.le_refl _) d_Mo_findField_94
        refine lv_if_lt (tgt := 81) G.1 G.2.1 d_Mo_findField_36 (by decide) (fun c36 => ?_) (fun c36 => ?_)
        · skip
          have h := h.1 c36
          exact J_81 s_h34 x1h34 x3h34 x5h34 H locs h hP hD hS ls (lv_sub hl [0, 1, 3, 4] rfl)
        · skip
          have h := h.2 c36
          refine lv_iload G.1 G.2.1 d_Mo_findField_39 (lv_at hl 4 rfl) ?_
          refine lv_if_ge (tgt := 81) G.1 G.2.1 d_Mo_findField_41 (by decide) (fun c41 => ?_) (fun c41 => ?_)
          · skip
            have h := h.1 c41
            exact J_81 s_h34 x1h34 x3h34 x5h34 H locs h hP hD hS ls (lv_sub hl [0, 1, 3, 4] rfl)
          · skip
            have h := h.2 c41
            refine lv_aload_n G.1 G.2.1 d_Mo_findField_44 rfl (lv_at hl 0 rfl) ?_
            refine lv_iload G.1 G.2.1 d_Mo_findField_45 (lv_at hl 5 rfl) ?_
            refine lv_aload_n G.1 G.2.1 d_Mo_findField_47 rfl (lv_at hl 0 rfl) ?_
            obtain ⟨b_32, e_33, c_34, h⟩ := h
            refine ugf (v := .ref (ad b_32)) G hP h_a0 iMo rfl 45 (by decide) rfl q3109 rfl (by show va_rf ((sO s_h34 a0 45).map ad) = _; rw [e_33]; rfl) d_Mo_findField_48 ?_
            refine ugfN (v := .ref (yP y b_32 32)) G hP c_34 iMw rfl 32 (by decide) rfl q2768 rfl rfl d_Mo_findField_51 ?_
            refine lv_iload_n G.1 G.2.1 d_Mo_findField_54 rfl (lv_at hl 2 rfl) ?_
            refine uiald G hP (kdp c_34 rfl) (typ c_34 rfl) h d_Mo_findField_55 (fun x_35 h => ?_)
            refine W.eq (g2 := F0 m 56 ls [.int x_35, .int x6h34, .ref (ad a0)]) rfl ?_
            refine lv_aload_n G.1 G.2.1 d_Mo_findField_56 rfl (lv_at hl 0 rfl) ?_
            refine ugf (v := .ref (ad b_32)) G hP h_a0 iMo rfl 45 (by decide) rfl q3109 rfl (by show va_rf ((sO s_h34 a0 45).map ad) = _; rw [e_33]; rfl) d_Mo_findField_57 ?_
            refine ugfN (v := .ref (yP y b_32 33)) G hP c_34 iMw rfl 33 (by decide) rfl q2770 rfl rfl d_Mo_findField_60 ?_
            refine lv_iload_n G.1 G.2.1 d_Mo_findField_63 rfl (lv_at hl 2 rfl) ?_
            refine uiald G hP (kdp c_34 rfl) (typ c_34 rfl) h d_Mo_findField_64 (fun x_36 h => ?_)
            refine ucVi (As := [.int x6h34, .int x_35, .int x_36]) (rest := []) G hP hD hS (cu_Mo_fieldByFaces l D g ad y _ s_h34 a0 x6h34 x_35 x_36 H.size h_a0 h) w9_Mo_fieldByFaces q3935 ⟨Nat.le_of_ble_eq_true rfl, Nat.le_of_ble_eq_true rfl⟩ rfl rfl h_a0 (q := (RMo, TMo, 131)) rfl rfl hl.1 rfl (Nat.le_of_ble_eq_true rfl) rfl ⟨Nat.le_refl _, Nat.le_refl _⟩ d_Mo_findField_65 (fun r_37 s_38 H locs h hP hD hS => ?_)
            refine lv_istore (lv' := [(5, .int r_37), (0, .ref (ad a0)), (1, .int x1h34), (2, .int x2h34), (3, .int x3h34), (6, .int x6h34)]) G.1 G.2.1 d_Mo_findField_68 hl (by decide) rfl (fun ls hl => ?_)
            refine lv_aload_n G.1 G.2.1 d_Mo_findField_70 rfl (lv_at hl 1 rfl) ?_
            refine lv_iload G.1 G.2.1 d_Mo_findField_71 (lv_at hl 5 rfl) ?_
            refine ucVi (As := [.int x6h34]) (rest := []) G hP hD hS (cu_Mo_parentOf l D g ad y _ s_38 a0 x6h34 H.size h_a0 h) w9_Mo_parentOf q3689 ⟨Nat.le_of_ble_eq_true rfl, Nat.le_of_ble_eq_true rfl⟩ rfl rfl h_a0 (q := (RMo, TMo, 131)) rfl rfl hl.1 rfl (Nat.le_of_ble_eq_true rfl) rfl ⟨Nat.le_refl _, Nat.le_refl _⟩ d_Mo_findField_73 (fun r_39 s_40 H locs h hP hD hS => ?_)
            refine lv_istore (lv' := [(6, .int r_39), (5, .int r_37), (0, .ref (ad a0)), (1, .int x1h34), (2, .int x2h34), (3, .int x3h34)]) G.1 G.2.1 d_Mo_findField_76 hl (by decide) rfl (fun ls hl => ?_)
            refine lv_goto (tgt := 34) G.1 G.2.1 d_Mo_findField_78 (by decide) ?_
            have h := hK_34 s_40 x1h34 x2h34 x3h34 r_37 r_39 h
            exact ih_34 s_40 x1h34 x2h34 x3h34 r_37 r_39 (Nat.lt_of_lt_of_le h.2 (Nat.le_of_lt_succ hμ_34)) h.1 H locs hP hD hS ls (lv_sub hl [2, 3, 4, 5, 1, 0] rfl)
    exact L_34 _ s_7 v1 v2 v3 (-1) r_5 (Nat.lt_succ_self _) hI_34 H locs hP hD hS ls (lv_sub hl [3, 4, 5, 6, 1, 0] rfl)
  · skip
    have h := h.2 c17
    refine lv_iconst (v := (-1)) G.1 G.2.1 d_Mo_findField_20 (by decide) ?_
    refine W.eq (g2 := F0 m 21 ls [.int (-1)]) rfl ?_
    exact hret _ _ _ _ _ _ _ ls h hP hD hS (Nat.le_refl _) (Nat.le_refl _) d_Mo_findField_21
theorem q3943 : Cond.methodLink "ClassWorksModel" 1032 y_Mo_tally ∈ lw_ok := lw_okmem (List.mem_of_getElem? (i := 3943) (by decide +kernel)) rfl
theorem q3946 : Cond.code y_Mo_tally b_Mo_tally 2 (none) ∈ lw_ok := lw_okmem (List.mem_of_getElem? (i := 3946) (by decide +kernel)) rfl
theorem q3945 : Cond.instanceMethod y_Mo_tally ∈ lw_ok := lw_okmem (List.mem_of_getElem? (i := 3945) (by decide +kernel)) rfl
theorem q275 : Cond.selects y_Mo_tally.cls y_Mo_tally y_Mo_tally ∈ lw_ok := lw_okmem (List.mem_of_getElem? (i := 275) (by decide +kernel)) rfl
theorem w9_Mo_tally : CWv y_Mo_tally b_Mo_tally 2 (none) 1 ∧ Cond.instanceMethod y_Mo_tally ∈ lw_ok ∧ Cond.selects y_Mo_tally.cls y_Mo_tally y_Mo_tally ∈ lw_ok := ⟨⟨q3946, q348, by decide +kernel, by decide +kernel, by decide +kernel⟩, q3945, q275⟩
def y_Mo_throwsAt : MethodName := ⟨"ClassWorksModel", "throwsAt", "(III)I"⟩
abbrev b_Mo_throwsAt : ByteArray := prog_14_method_107_code
theorem d_Mo_throwsAt_0 : decode b_Mo_throwsAt 0 = .ok (.aload_n 0, 1) := by decide +kernel
theorem d_Mo_throwsAt_1 : decode b_Mo_throwsAt 1 = .ok (.iload_n 1, 1) := by decide +kernel
theorem d_Mo_throwsAt_2 : decode b_Mo_throwsAt 2 = .ok (.invokevirtual 1032, 3) := by decide +kernel
theorem d_Mo_throwsAt_5 : decode b_Mo_throwsAt 5 = .ok (.aload_n 0, 1) := by decide +kernel
theorem d_Mo_throwsAt_6 : decode b_Mo_throwsAt 6 = .ok (.iload_n 2, 1) := by decide +kernel
theorem d_Mo_throwsAt_7 : decode b_Mo_throwsAt 7 = .ok (.iload_n 3, 1) := by decide +kernel
theorem d_Mo_throwsAt_8 : decode b_Mo_throwsAt 8 = .ok (.invokevirtual 1001, 3) := by decide +kernel
theorem d_Mo_throwsAt_11 : decode b_Mo_throwsAt 11 = .ok (.iconst 1, 1) := by decide +kernel
theorem d_Mo_throwsAt_12 : decode b_Mo_throwsAt 12 = .ok (.ireturn, 1) := by decide +kernel
abbrev ra_Mo_throwsAt (mc ms : Nat) : Room := { frames := 8, cells := mc, slots := ms, locals := 220 }
def wa_Mo_throwsAt (mc ms : Nat) (y : Ly) (Post : Ly → St → Int32 → Nat → Nat → Prop) (σ : St) (a0 : Nat) (v1 : Int32) (v2 : Int32) (v3 : Int32) : Prop := wu_Mo_tally y (fun (s_2 : St) => ∃ mc_8 ms_9 : Nat, (0 + mc_8 ≤ mc ∧ 0 + ms_9 ≤ ms) ∧ wa_Mo_throwNew mc_8 ms_9 y (fun (y_5 : Ly) (s_4 : St) (d_6 e_7 : Nat) => (0 + d_6 ≤ mc ∧ 0 + e_7 ≤ ms) ∧ Post y_5 s_4 1 (0 + d_6) (0 + e_7)) s_2 a0 v2 v3) σ a0 v1
set_option maxHeartbeats 4000000 in
set_option maxRecDepth 100000 in
theorem ca_Mo_throwsAt (l : Launch) (D : va_G) (g : Nat → ClassId) (ad : Nat → Nat) (mc ms : Nat) (y : Ly) (Post : Ly → St → Int32 → Nat → Nat → Prop) (σ : St) (a0 : Nat) (v1 : Int32) (v2 : Int32) (v3 : Int32) (sz uz : Nat) (h_a0 : cl a0 = 14) (h : wa_Mo_throwsAt mc ms y Post σ a0 v1 v2 v3) : Met l y_Mo_throwsAt (mw y_Mo_throwsAt b_Mo_throwsAt 4 (some .int)) (ra_Mo_throwsAt mc ms) (PCu g D [] [.ref (ad a0), .int v1, .int v2, .int v3] sz uz (ws g ad y σ)) (va_Qi (fun (r : Int32) (u : Ly × St × Nat × Nat) => Post u.1 u.2.1 r u.2.2.1 u.2.2.2) (QU D (va_A (ws g ad y σ) sz) (fun u => ws g ad u.1 u.2.1) sz uz (fun u => u.2.2.1) (fun u => u.2.2.2)) (va_A (ws g ad y σ) sz)) mc ms (va_A (ws g ad y σ) sz) := by
  refine ofIu (by decide +kernel) (Nat.le_of_ble_eq_true rfl) ?_
  intro p e s m args below meth c A Q ls H locs G hsz hP hD hS hl hret
  subst hsz
  have hl : lv_has ls 4 [(0, .ref (ad a0)), (1, .int v1), (2, .int v2), (3, .int v3)] := hl
  have hd : 0 ≤ mc ∧ 0 ≤ ms := ⟨Nat.zero_le _, Nat.zero_le _⟩
  unfold wa_Mo_throwsAt at h
  refine lv_aload_n G.1 G.2.1 d_Mo_throwsAt_0 rfl (lv_at hl 0 rfl) ?_
  refine lv_iload_n G.1 G.2.1 d_Mo_throwsAt_1 rfl (lv_at hl 1 rfl) ?_
  refine ucVv (As := [.int v1]) (rest := []) G hP hD hS (cu_Mo_tally l D g ad y _ σ a0 v1 H.size h_a0 h) w9_Mo_tally q3943 ⟨Nat.le_of_ble_eq_true rfl, Nat.le_of_ble_eq_true rfl⟩ rfl rfl h_a0 (q := (RMo, TMo, 131)) rfl rfl hl.1 rfl (Nat.le_of_ble_eq_true rfl) rfl hd d_Mo_throwsAt_2 (fun s_2 H locs h hP hD hS => ?_)
  refine lv_aload_n G.1 G.2.1 d_Mo_throwsAt_5 rfl (lv_at hl 0 rfl) ?_
  refine lv_iload_n G.1 G.2.1 d_Mo_throwsAt_6 rfl (lv_at hl 2 rfl) ?_
  refine lv_iload_n G.1 G.2.1 d_Mo_throwsAt_7 rfl (lv_at hl 3 rfl) ?_
  obtain ⟨mc_8, ms_9, hr_10, h⟩ := h
  refine uaVv (As := [.int v2, .int v3]) (rest := []) G hP hD hS (ca_Mo_throwNew l D g ad mc_8 ms_9 y _ s_2 a0 v2 v3 H.size (us H) h_a0 h) w9_Mo_throwNew q3883 ⟨Nat.le_of_ble_eq_true rfl, Nat.le_of_ble_eq_true rfl⟩ rfl rfl h_a0 (q := (RMo, TMo, 131)) rfl rfl hl.1 rfl (Nat.le_of_ble_eq_true rfl) rfl hr_10 d_Mo_throwsAt_8 (fun y_5 s_4 d_6 e_7 H locs h hP hD hS => ?_)
  have hl := lv_sub (l' := []) hl [] rfl
  obtain ⟨hd, h⟩ := h
  refine lv_iconst (v := 1) G.1 G.2.1 d_Mo_throwsAt_11 (by decide) ?_
  exact hret _ (y_5, s_4, 0 + d_6, 0 + e_7) _ _ _ _ _ ls h hP hD hS (Nat.le_refl _) (Nat.le_refl _) hd.1 hd.2 d_Mo_throwsAt_12
theorem q3931 : Cond.methodLink "ClassWorksModel" 1078 y_Mo_findField ∈ lw_ok := lw_okmem (List.mem_of_getElem? (i := 3931) (by decide +kernel)) rfl
theorem q3934 : Cond.code y_Mo_findField b_Mo_findField 11 (some .int) ∈ lw_ok := lw_okmem (List.mem_of_getElem? (i := 3934) (by decide +kernel)) rfl
theorem q3933 : Cond.instanceMethod y_Mo_findField ∈ lw_ok := lw_okmem (List.mem_of_getElem? (i := 3933) (by decide +kernel)) rfl
theorem q272 : Cond.selects y_Mo_findField.cls y_Mo_findField y_Mo_findField ∈ lw_ok := lw_okmem (List.mem_of_getElem? (i := 272) (by decide +kernel)) rfl
theorem w9_Mo_findField : CWv y_Mo_findField b_Mo_findField 11 (some .int) 3 ∧ Cond.instanceMethod y_Mo_findField ∈ lw_ok ∧ Cond.selects y_Mo_findField.cls y_Mo_findField y_Mo_findField ∈ lw_ok := ⟨⟨q3934, q348, by decide +kernel, by decide +kernel, by decide +kernel⟩, q3933, q272⟩
theorem q3939 : Cond.methodLink "ClassWorksModel" 1075 y_Mo_throwsAt ∈ lw_ok := lw_okmem (List.mem_of_getElem? (i := 3939) (by decide +kernel)) rfl
theorem q3942 : Cond.code y_Mo_throwsAt b_Mo_throwsAt 4 (some .int) ∈ lw_ok := lw_okmem (List.mem_of_getElem? (i := 3942) (by decide +kernel)) rfl
theorem q3941 : Cond.instanceMethod y_Mo_throwsAt ∈ lw_ok := lw_okmem (List.mem_of_getElem? (i := 3941) (by decide +kernel)) rfl
theorem q274 : Cond.selects y_Mo_throwsAt.cls y_Mo_throwsAt y_Mo_throwsAt ∈ lw_ok := lw_okmem (List.mem_of_getElem? (i := 274) (by decide +kernel)) rfl
theorem w9_Mo_throwsAt : CWv y_Mo_throwsAt b_Mo_throwsAt 4 (some .int) 3 ∧ Cond.instanceMethod y_Mo_throwsAt ∈ lw_ok ∧ Cond.selects y_Mo_throwsAt.cls y_Mo_throwsAt y_Mo_throwsAt ∈ lw_ok := ⟨⟨q3942, q348, by decide +kernel, by decide +kernel, by decide +kernel⟩, q3941, q274⟩
theorem q3951 : Cond.methodLink "ClassWorksModel" 1081 y_Mo_slotOf ∈ lw_ok := lw_okmem (List.mem_of_getElem? (i := 3951) (by decide +kernel)) rfl
theorem q3954 : Cond.code y_Mo_slotOf b_Mo_slotOf 4 (some .int) ∈ lw_ok := lw_okmem (List.mem_of_getElem? (i := 3954) (by decide +kernel)) rfl
theorem q3953 : Cond.instanceMethod y_Mo_slotOf ∈ lw_ok := lw_okmem (List.mem_of_getElem? (i := 3953) (by decide +kernel)) rfl
theorem q277 : Cond.selects y_Mo_slotOf.cls y_Mo_slotOf y_Mo_slotOf ∈ lw_ok := lw_okmem (List.mem_of_getElem? (i := 277) (by decide +kernel)) rfl
theorem w9_Mo_slotOf : CWv y_Mo_slotOf b_Mo_slotOf 4 (some .int) 1 ∧ Cond.instanceMethod y_Mo_slotOf ∈ lw_ok ∧ Cond.selects y_Mo_slotOf.cls y_Mo_slotOf y_Mo_slotOf ∈ lw_ok := ⟨⟨q3954, q348, by decide +kernel, by decide +kernel, by decide +kernel⟩, q3953, q277⟩
def y_Mo_fieldStep : MethodName := ⟨"ClassWorksModel", "fieldStep", "(IIII)I"⟩
abbrev b_Mo_fieldStep : ByteArray := prog_14_method_114_code
theorem d_Mo_fieldStep_0 : decode b_Mo_fieldStep 0 = .ok (.aload_n 0, 1) := by decide +kernel
theorem d_Mo_fieldStep_1 : decode b_Mo_fieldStep 1 = .ok (.iload 4, 2) := by decide +kernel
theorem d_Mo_fieldStep_3 : decode b_Mo_fieldStep 3 = .ok (.iload_n 3, 1) := by decide +kernel
theorem d_Mo_fieldStep_4 : decode b_Mo_fieldStep 4 = .ok (.iload_n 2, 1) := by decide +kernel
theorem d_Mo_fieldStep_5 : decode b_Mo_fieldStep 5 = .ok (.invokevirtual 1078, 3) := by decide +kernel
theorem d_Mo_fieldStep_8 : decode b_Mo_fieldStep 8 = .ok (.istore 5, 2) := by decide +kernel
theorem d_Mo_fieldStep_10 : decode b_Mo_fieldStep 10 = .ok (.iload 5, 2) := by decide +kernel
theorem d_Mo_fieldStep_12 : decode b_Mo_fieldStep 12 = .ok (.ifCond .ge 18, 3) := by decide +kernel
theorem d_Mo_fieldStep_15 : decode b_Mo_fieldStep 15 = .ok (.aload_n 0, 1) := by decide +kernel
theorem d_Mo_fieldStep_16 : decode b_Mo_fieldStep 16 = .ok (.iload 4, 2) := by decide +kernel
theorem d_Mo_fieldStep_18 : decode b_Mo_fieldStep 18 = .ok (.aload_n 0, 1) := by decide +kernel
theorem d_Mo_fieldStep_19 : decode b_Mo_fieldStep 19 = .ok (.getfield 844, 3) := by decide +kernel
theorem d_Mo_fieldStep_22 : decode b_Mo_fieldStep 22 = .ok (.aload_n 0, 1) := by decide +kernel
theorem d_Mo_fieldStep_23 : decode b_Mo_fieldStep 23 = .ok (.getfield 847, 3) := by decide +kernel
theorem d_Mo_fieldStep_26 : decode b_Mo_fieldStep 26 = .ok (.invokevirtual 1075, 3) := by decide +kernel
theorem d_Mo_fieldStep_29 : decode b_Mo_fieldStep 29 = .ok (.ireturn, 1) := by decide +kernel
theorem d_Mo_fieldStep_30 : decode b_Mo_fieldStep 30 = .ok (.aload_n 0, 1) := by decide +kernel
theorem d_Mo_fieldStep_31 : decode b_Mo_fieldStep 31 = .ok (.getfield 522, 3) := by decide +kernel
theorem d_Mo_fieldStep_34 : decode b_Mo_fieldStep 34 = .ok (.getfield 624, 3) := by decide +kernel
theorem d_Mo_fieldStep_37 : decode b_Mo_fieldStep 37 = .ok (.iload 5, 2) := by decide +kernel
theorem d_Mo_fieldStep_39 : decode b_Mo_fieldStep 39 = .ok (.iaload, 1) := by decide +kernel
theorem d_Mo_fieldStep_40 : decode b_Mo_fieldStep 40 = .ok (.iconst 1, 1) := by decide +kernel
theorem d_Mo_fieldStep_41 : decode b_Mo_fieldStep 41 = .ok (.if_icmp .eq 7, 3) := by decide +kernel
theorem d_Mo_fieldStep_44 : decode b_Mo_fieldStep 44 = .ok (.iconst 1, 1) := by decide +kernel
theorem d_Mo_fieldStep_45 : decode b_Mo_fieldStep 45 = .ok (.goto 4, 3) := by decide +kernel
theorem d_Mo_fieldStep_48 : decode b_Mo_fieldStep 48 = .ok (.iconst 0, 1) := by decide +kernel
theorem d_Mo_fieldStep_49 : decode b_Mo_fieldStep 49 = .ok (.istore 6, 2) := by decide +kernel
theorem d_Mo_fieldStep_51 : decode b_Mo_fieldStep 51 = .ok (.iload 4, 2) := by decide +kernel
theorem d_Mo_fieldStep_53 : decode b_Mo_fieldStep 53 = .ok (.bipush 48, 2) := by decide +kernel
theorem d_Mo_fieldStep_55 : decode b_Mo_fieldStep 55 = .ok (.if_icmp .eq 10, 3) := by decide +kernel
theorem d_Mo_fieldStep_58 : decode b_Mo_fieldStep 58 = .ok (.iload 4, 2) := by decide +kernel
theorem d_Mo_fieldStep_60 : decode b_Mo_fieldStep 60 = .ok (.bipush 49, 2) := by decide +kernel
theorem d_Mo_fieldStep_62 : decode b_Mo_fieldStep 62 = .ok (.if_icmp .ne 117, 3) := by decide +kernel
theorem d_Mo_fieldStep_65 : decode b_Mo_fieldStep 65 = .ok (.aload_n 0, 1) := by decide +kernel
theorem d_Mo_fieldStep_66 : decode b_Mo_fieldStep 66 = .ok (.iload 5, 2) := by decide +kernel
theorem d_Mo_fieldStep_68 : decode b_Mo_fieldStep 68 = .ok (.bipush 8, 2) := by decide +kernel
theorem d_Mo_fieldStep_70 : decode b_Mo_fieldStep 70 = .ok (.idiv, 1) := by decide +kernel
theorem d_Mo_fieldStep_71 : decode b_Mo_fieldStep 71 = .ok (.invokevirtual 998, 3) := by decide +kernel
theorem d_Mo_fieldStep_74 : decode b_Mo_fieldStep 74 = .ok (.istore 7, 2) := by decide +kernel
theorem d_Mo_fieldStep_76 : decode b_Mo_fieldStep 76 = .ok (.iload 7, 2) := by decide +kernel
theorem d_Mo_fieldStep_78 : decode b_Mo_fieldStep 78 = .ok (.ifCond .eq 38, 3) := by decide +kernel
theorem d_Mo_fieldStep_81 : decode b_Mo_fieldStep 81 = .ok (.iload 7, 2) := by decide +kernel
theorem d_Mo_fieldStep_83 : decode b_Mo_fieldStep 83 = .ok (.iconst 3, 1) := by decide +kernel
theorem d_Mo_fieldStep_84 : decode b_Mo_fieldStep 84 = .ok (.if_icmp .ne 20, 3) := by decide +kernel
theorem d_Mo_fieldStep_87 : decode b_Mo_fieldStep 87 = .ok (.aload_n 0, 1) := by decide +kernel
theorem d_Mo_fieldStep_88 : decode b_Mo_fieldStep 88 = .ok (.iload 4, 2) := by decide +kernel
theorem d_Mo_fieldStep_90 : decode b_Mo_fieldStep 90 = .ok (.aload_n 0, 1) := by decide +kernel
theorem d_Mo_fieldStep_91 : decode b_Mo_fieldStep 91 = .ok (.getfield 844, 3) := by decide +kernel
theorem d_Mo_fieldStep_94 : decode b_Mo_fieldStep 94 = .ok (.aload_n 0, 1) := by decide +kernel
theorem d_Mo_fieldStep_95 : decode b_Mo_fieldStep 95 = .ok (.getfield 847, 3) := by decide +kernel
theorem d_Mo_fieldStep_98 : decode b_Mo_fieldStep 98 = .ok (.invokevirtual 1075, 3) := by decide +kernel
theorem d_Mo_fieldStep_101 : decode b_Mo_fieldStep 101 = .ok (.goto 14, 3) := by decide +kernel
theorem d_Mo_fieldStep_104 : decode b_Mo_fieldStep 104 = .ok (.iload 7, 2) := by decide +kernel
theorem d_Mo_fieldStep_106 : decode b_Mo_fieldStep 106 = .ok (.iconst 2, 1) := by decide +kernel
theorem d_Mo_fieldStep_107 : decode b_Mo_fieldStep 107 = .ok (.if_icmp .ne 7, 3) := by decide +kernel
theorem d_Mo_fieldStep_110 : decode b_Mo_fieldStep 110 = .ok (.iconst 2, 1) := by decide +kernel
theorem d_Mo_fieldStep_111 : decode b_Mo_fieldStep 111 = .ok (.goto 4, 3) := by decide +kernel
theorem d_Mo_fieldStep_114 : decode b_Mo_fieldStep 114 = .ok (.iconst 0, 1) := by decide +kernel
theorem d_Mo_fieldStep_115 : decode b_Mo_fieldStep 115 = .ok (.ireturn, 1) := by decide +kernel
theorem d_Mo_fieldStep_116 : decode b_Mo_fieldStep 116 = .ok (.aload_n 0, 1) := by decide +kernel
theorem d_Mo_fieldStep_117 : decode b_Mo_fieldStep 117 = .ok (.iload 4, 2) := by decide +kernel
theorem d_Mo_fieldStep_119 : decode b_Mo_fieldStep 119 = .ok (.invokevirtual 1032, 3) := by decide +kernel
theorem d_Mo_fieldStep_122 : decode b_Mo_fieldStep 122 = .ok (.iload 4, 2) := by decide +kernel
theorem d_Mo_fieldStep_124 : decode b_Mo_fieldStep 124 = .ok (.bipush 48, 2) := by decide +kernel
theorem d_Mo_fieldStep_126 : decode b_Mo_fieldStep 126 = .ok (.if_icmp .ne 23, 3) := by decide +kernel
theorem d_Mo_fieldStep_129 : decode b_Mo_fieldStep 129 = .ok (.aload_n 0, 1) := by decide +kernel
theorem d_Mo_fieldStep_130 : decode b_Mo_fieldStep 130 = .ok (.iload_n 1, 1) := by decide +kernel
theorem d_Mo_fieldStep_131 : decode b_Mo_fieldStep 131 = .ok (.aload_n 0, 1) := by decide +kernel
theorem d_Mo_fieldStep_132 : decode b_Mo_fieldStep 132 = .ok (.getfield 522, 3) := by decide +kernel
theorem d_Mo_fieldStep_135 : decode b_Mo_fieldStep 135 = .ok (.getfield 636, 3) := by decide +kernel
theorem d_Mo_fieldStep_138 : decode b_Mo_fieldStep 138 = .ok (.iload 5, 2) := by decide +kernel
theorem d_Mo_fieldStep_140 : decode b_Mo_fieldStep 140 = .ok (.iaload, 1) := by decide +kernel
theorem d_Mo_fieldStep_141 : decode b_Mo_fieldStep 141 = .ok (.iload 6, 2) := by decide +kernel
theorem d_Mo_fieldStep_143 : decode b_Mo_fieldStep 143 = .ok (.invokevirtual 970, 3) := by decide +kernel
theorem d_Mo_fieldStep_146 : decode b_Mo_fieldStep 146 = .ok (.goto 18, 3) := by decide +kernel
theorem d_Mo_fieldStep_149 : decode b_Mo_fieldStep 149 = .ok (.aload_n 0, 1) := by decide +kernel
theorem d_Mo_fieldStep_150 : decode b_Mo_fieldStep 150 = .ok (.getfield 522, 3) := by decide +kernel
theorem d_Mo_fieldStep_153 : decode b_Mo_fieldStep 153 = .ok (.getfield 636, 3) := by decide +kernel
theorem d_Mo_fieldStep_156 : decode b_Mo_fieldStep 156 = .ok (.iload 5, 2) := by decide +kernel
theorem d_Mo_fieldStep_158 : decode b_Mo_fieldStep 158 = .ok (.aload_n 0, 1) := by decide +kernel
theorem d_Mo_fieldStep_159 : decode b_Mo_fieldStep 159 = .ok (.iload_n 1, 1) := by decide +kernel
theorem d_Mo_fieldStep_160 : decode b_Mo_fieldStep 160 = .ok (.invokevirtual 1057, 3) := by decide +kernel
theorem d_Mo_fieldStep_163 : decode b_Mo_fieldStep 163 = .ok (.iastore, 1) := by decide +kernel
theorem d_Mo_fieldStep_164 : decode b_Mo_fieldStep 164 = .ok (.aload_n 0, 1) := by decide +kernel
theorem d_Mo_fieldStep_165 : decode b_Mo_fieldStep 165 = .ok (.getfield 917, 3) := by decide +kernel
theorem d_Mo_fieldStep_168 : decode b_Mo_fieldStep 168 = .ok (.getfield 930, 3) := by decide +kernel
theorem d_Mo_fieldStep_171 : decode b_Mo_fieldStep 171 = .ok (.iload_n 1, 1) := by decide +kernel
theorem d_Mo_fieldStep_172 : decode b_Mo_fieldStep 172 = .ok (.dup2, 1) := by decide +kernel
theorem d_Mo_fieldStep_173 : decode b_Mo_fieldStep 173 = .ok (.iaload, 1) := by decide +kernel
theorem d_Mo_fieldStep_174 : decode b_Mo_fieldStep 174 = .ok (.iconst 1, 1) := by decide +kernel
theorem d_Mo_fieldStep_175 : decode b_Mo_fieldStep 175 = .ok (.iadd, 1) := by decide +kernel
theorem d_Mo_fieldStep_176 : decode b_Mo_fieldStep 176 = .ok (.iastore, 1) := by decide +kernel
theorem d_Mo_fieldStep_177 : decode b_Mo_fieldStep 177 = .ok (.iconst 1, 1) := by decide +kernel
theorem d_Mo_fieldStep_178 : decode b_Mo_fieldStep 178 = .ok (.ireturn, 1) := by decide +kernel
theorem d_Mo_fieldStep_179 : decode b_Mo_fieldStep 179 = .ok (.aload_n 0, 1) := by decide +kernel
theorem d_Mo_fieldStep_180 : decode b_Mo_fieldStep 180 = .ok (.iload 4, 2) := by decide +kernel
theorem d_Mo_fieldStep_182 : decode b_Mo_fieldStep 182 = .ok (.invokevirtual 1032, 3) := by decide +kernel
theorem d_Mo_fieldStep_185 : decode b_Mo_fieldStep 185 = .ok (.iload 4, 2) := by decide +kernel
theorem d_Mo_fieldStep_187 : decode b_Mo_fieldStep 187 = .ok (.bipush 47, 2) := by decide +kernel
theorem d_Mo_fieldStep_189 : decode b_Mo_fieldStep 189 = .ok (.if_icmp .ne 11, 3) := by decide +kernel
theorem d_Mo_fieldStep_192 : decode b_Mo_fieldStep 192 = .ok (.aload_n 0, 1) := by decide +kernel
theorem d_Mo_fieldStep_193 : decode b_Mo_fieldStep 193 = .ok (.iload_n 1, 1) := by decide +kernel
theorem d_Mo_fieldStep_194 : decode b_Mo_fieldStep 194 = .ok (.invokevirtual 1057, 3) := by decide +kernel
theorem d_Mo_fieldStep_197 : decode b_Mo_fieldStep 197 = .ok (.goto 4, 3) := by decide +kernel
theorem d_Mo_fieldStep_200 : decode b_Mo_fieldStep 200 = .ok (.iconst 0, 1) := by decide +kernel
theorem d_Mo_fieldStep_201 : decode b_Mo_fieldStep 201 = .ok (.istore 7, 2) := by decide +kernel
theorem d_Mo_fieldStep_203 : decode b_Mo_fieldStep 203 = .ok (.aload_n 0, 1) := by decide +kernel
theorem d_Mo_fieldStep_204 : decode b_Mo_fieldStep 204 = .ok (.iload_n 1, 1) := by decide +kernel
theorem d_Mo_fieldStep_205 : decode b_Mo_fieldStep 205 = .ok (.invokevirtual 1057, 3) := by decide +kernel
theorem d_Mo_fieldStep_208 : decode b_Mo_fieldStep 208 = .ok (.istore 8, 2) := by decide +kernel
theorem d_Mo_fieldStep_210 : decode b_Mo_fieldStep 210 = .ok (.iload 8, 2) := by decide +kernel
theorem d_Mo_fieldStep_212 : decode b_Mo_fieldStep 212 = .ok (.ifCond .ne 11, 3) := by decide +kernel
theorem d_Mo_fieldStep_215 : decode b_Mo_fieldStep 215 = .ok (.aload_n 0, 1) := by decide +kernel
theorem d_Mo_fieldStep_216 : decode b_Mo_fieldStep 216 = .ok (.iconst 0, 1) := by decide +kernel
theorem d_Mo_fieldStep_217 : decode b_Mo_fieldStep 217 = .ok (.iconst 2, 1) := by decide +kernel
theorem d_Mo_fieldStep_218 : decode b_Mo_fieldStep 218 = .ok (.invokevirtual 1001, 3) := by decide +kernel
theorem d_Mo_fieldStep_221 : decode b_Mo_fieldStep 221 = .ok (.iconst 1, 1) := by decide +kernel
theorem d_Mo_fieldStep_222 : decode b_Mo_fieldStep 222 = .ok (.ireturn, 1) := by decide +kernel
theorem d_Mo_fieldStep_223 : decode b_Mo_fieldStep 223 = .ok (.aload_n 0, 1) := by decide +kernel
theorem d_Mo_fieldStep_224 : decode b_Mo_fieldStep 224 = .ok (.getfield 522, 3) := by decide +kernel
theorem d_Mo_fieldStep_227 : decode b_Mo_fieldStep 227 = .ok (.getfield 884, 3) := by decide +kernel
theorem d_Mo_fieldStep_230 : decode b_Mo_fieldStep 230 = .ok (.iload 8, 2) := by decide +kernel
theorem d_Mo_fieldStep_232 : decode b_Mo_fieldStep 232 = .ok (.iaload, 1) := by decide +kernel
theorem d_Mo_fieldStep_233 : decode b_Mo_fieldStep 233 = .ok (.aload_n 0, 1) := by decide +kernel
theorem d_Mo_fieldStep_234 : decode b_Mo_fieldStep 234 = .ok (.iload 5, 2) := by decide +kernel
theorem d_Mo_fieldStep_236 : decode b_Mo_fieldStep 236 = .ok (.invokevirtual 1081, 3) := by decide +kernel
theorem d_Mo_fieldStep_239 : decode b_Mo_fieldStep 239 = .ok (.iadd, 1) := by decide +kernel
theorem d_Mo_fieldStep_240 : decode b_Mo_fieldStep 240 = .ok (.istore 9, 2) := by decide +kernel
theorem d_Mo_fieldStep_242 : decode b_Mo_fieldStep 242 = .ok (.iload 4, 2) := by decide +kernel
theorem d_Mo_fieldStep_244 : decode b_Mo_fieldStep 244 = .ok (.bipush 47, 2) := by decide +kernel
theorem d_Mo_fieldStep_246 : decode b_Mo_fieldStep 246 = .ok (.if_icmp .ne 18, 3) := by decide +kernel
theorem d_Mo_fieldStep_249 : decode b_Mo_fieldStep 249 = .ok (.aload_n 0, 1) := by decide +kernel
theorem d_Mo_fieldStep_250 : decode b_Mo_fieldStep 250 = .ok (.getfield 522, 3) := by decide +kernel
theorem d_Mo_fieldStep_253 : decode b_Mo_fieldStep 253 = .ok (.getfield 893, 3) := by decide +kernel
theorem d_Mo_fieldStep_256 : decode b_Mo_fieldStep 256 = .ok (.iload 9, 2) := by decide +kernel
theorem d_Mo_fieldStep_258 : decode b_Mo_fieldStep 258 = .ok (.iload 7, 2) := by decide +kernel
theorem d_Mo_fieldStep_260 : decode b_Mo_fieldStep 260 = .ok (.iastore, 1) := by decide +kernel
theorem d_Mo_fieldStep_261 : decode b_Mo_fieldStep 261 = .ok (.goto 20, 3) := by decide +kernel
theorem d_Mo_fieldStep_264 : decode b_Mo_fieldStep 264 = .ok (.aload_n 0, 1) := by decide +kernel
theorem d_Mo_fieldStep_265 : decode b_Mo_fieldStep 265 = .ok (.iload_n 1, 1) := by decide +kernel
theorem d_Mo_fieldStep_266 : decode b_Mo_fieldStep 266 = .ok (.aload_n 0, 1) := by decide +kernel
theorem d_Mo_fieldStep_267 : decode b_Mo_fieldStep 267 = .ok (.getfield 522, 3) := by decide +kernel
theorem d_Mo_fieldStep_270 : decode b_Mo_fieldStep 270 = .ok (.getfield 893, 3) := by decide +kernel
theorem d_Mo_fieldStep_273 : decode b_Mo_fieldStep 273 = .ok (.iload 9, 2) := by decide +kernel
theorem d_Mo_fieldStep_275 : decode b_Mo_fieldStep 275 = .ok (.iaload, 1) := by decide +kernel
theorem d_Mo_fieldStep_276 : decode b_Mo_fieldStep 276 = .ok (.iload 6, 2) := by decide +kernel
theorem d_Mo_fieldStep_278 : decode b_Mo_fieldStep 278 = .ok (.invokevirtual 970, 3) := by decide +kernel
theorem d_Mo_fieldStep_281 : decode b_Mo_fieldStep 281 = .ok (.aload_n 0, 1) := by decide +kernel
theorem d_Mo_fieldStep_282 : decode b_Mo_fieldStep 282 = .ok (.getfield 917, 3) := by decide +kernel
theorem d_Mo_fieldStep_285 : decode b_Mo_fieldStep 285 = .ok (.getfield 930, 3) := by decide +kernel
theorem d_Mo_fieldStep_288 : decode b_Mo_fieldStep 288 = .ok (.iload_n 1, 1) := by decide +kernel
theorem d_Mo_fieldStep_289 : decode b_Mo_fieldStep 289 = .ok (.dup2, 1) := by decide +kernel
theorem d_Mo_fieldStep_290 : decode b_Mo_fieldStep 290 = .ok (.iaload, 1) := by decide +kernel
theorem d_Mo_fieldStep_291 : decode b_Mo_fieldStep 291 = .ok (.iconst 1, 1) := by decide +kernel
theorem d_Mo_fieldStep_292 : decode b_Mo_fieldStep 292 = .ok (.iadd, 1) := by decide +kernel
theorem d_Mo_fieldStep_293 : decode b_Mo_fieldStep 293 = .ok (.iastore, 1) := by decide +kernel
theorem d_Mo_fieldStep_294 : decode b_Mo_fieldStep 294 = .ok (.iconst 1, 1) := by decide +kernel
theorem d_Mo_fieldStep_295 : decode b_Mo_fieldStep 295 = .ok (.ireturn, 1) := by decide +kernel
abbrev ra_Mo_fieldStep (mc ms : Nat) : Room := { frames := 471, cells := mc, slots := ms, locals := 11462 }
def wja_Mo_fieldStep_164 (mc ms : Nat) (Post : Ly → St → Int32 → Nat → Nat → Prop) (a0 : Nat) (y_j164 : Ly) (s_j164 : St) (d_j164 e_j164 : Nat) (x1j164 : Int32) : Prop := (d_j164 ≤ mc ∧ e_j164 ≤ ms) ∧ ∃ b_11 : Nat, sO s_j164 a0 46 = some b_11 ∧ cl b_11 = 12 ∧ xA y_j164 s_j164 b_11 18 x1j164 (fun x_14 : Int32 => xS y_j164 s_j164 b_11 18 x1j164 (x_14 + 1) (fun s_15 : St => Post y_j164 s_15 1 d_j164 e_j164))
def wja_Mo_fieldStep_115 (mc ms : Nat) (Post : Ly → St → Int32 → Nat → Nat → Prop) (a0 : Nat) (y_j115 : Ly) (s_j115 : St) (d_j115 e_j115 : Nat) (z0j115 : Int32) : Prop := (d_j115 ≤ mc ∧ e_j115 ≤ ms) ∧ Post y_j115 s_j115 z0j115 d_j115 e_j115
def wja_Mo_fieldStep_65 (mc ms : Nat) (Post : Ly → St → Int32 → Nat → Nat → Prop) (a0 : Nat) (y_j65 : Ly) (s_j65 : St) (d_j65 e_j65 : Nat) (x1j65 : Int32) (x4j65 : Int32) (x5j65 : Int32) (x6j65 : Int32) : Prop := (d_j65 ≤ mc ∧ e_j65 ≤ ms) ∧ wu_Mo_startOf y_j65 (fun (s_8 : St) (r_7 : Int32) => ((r_7 = 0 → wu_Mo_tally y_j65 (fun (s_10 : St) => ((¬ x4j65 = 48 → ∃ b_16 : Nat, sO s_10 a0 45 = some b_16 ∧ cl b_16 = 13 ∧ wu_Mo_pop y_j65 (fun (s_20 : St) (r_19 : Int32) => xS y_j65 s_20 b_16 17 x5j65 r_19 (fun s_21 : St => wja_Mo_fieldStep_164 mc ms Post a0 y_j65 s_21 d_j65 e_j65 x1j65)) s_10 a0 x1j65) ∧ (x4j65 = 48 → ∃ b_22 : Nat, sO s_10 a0 45 = some b_22 ∧ cl b_22 = 13 ∧ xA y_j65 s_10 b_22 17 x5j65 (fun x_25 : Int32 => wu_Mo_push y_j65 (fun (s_27 : St) => wja_Mo_fieldStep_164 mc ms Post a0 y_j65 s_27 d_j65 e_j65 x1j65) s_10 a0 x1j65 x_25 x6j65)))) s_8 a0 x4j65) ∧ (¬ (r_7 = 0) → ((¬ r_7 = 3 → ((¬ r_7 = 2 → wja_Mo_fieldStep_115 mc ms Post a0 y_j65 s_8 d_j65 e_j65 0) ∧ (r_7 = 2 → wja_Mo_fieldStep_115 mc ms Post a0 y_j65 s_8 d_j65 e_j65 2))) ∧ (r_7 = 3 → ∃ mc_33 ms_34 : Nat, (d_j65 + mc_33 ≤ mc ∧ e_j65 + ms_34 ≤ ms) ∧ wa_Mo_throwsAt mc_33 ms_34 y_j65 (fun (y_30 : Ly) (s_29 : St) (r_28 : Int32) (d_31 e_32 : Nat) => (d_j65 + d_31 ≤ mc ∧ e_j65 + e_32 ≤ ms) ∧ wja_Mo_fieldStep_115 mc ms Post a0 y_30 s_29 (d_j65 + d_31) (e_j65 + e_32) r_28) s_8 a0 x4j65 (sV s_8 a0 81) (sV s_8 a0 80)))))) s_j65 a0 (x5j65 / 8)
def wja_Mo_fieldStep_281 (mc ms : Nat) (Post : Ly → St → Int32 → Nat → Nat → Prop) (a0 : Nat) (y_j281 : Ly) (s_j281 : St) (d_j281 e_j281 : Nat) (x1j281 : Int32) : Prop := (d_j281 ≤ mc ∧ e_j281 ≤ ms) ∧ ∃ b_46 : Nat, sO s_j281 a0 46 = some b_46 ∧ cl b_46 = 12 ∧ xA y_j281 s_j281 b_46 18 x1j281 (fun x_49 : Int32 => xS y_j281 s_j281 b_46 18 x1j281 (x_49 + 1) (fun s_50 : St => Post y_j281 s_50 1 d_j281 e_j281))
def wja_Mo_fieldStep_201 (mc ms : Nat) (Post : Ly → St → Int32 → Nat → Nat → Prop) (a0 : Nat) (y_j201 : Ly) (s_j201 : St) (d_j201 e_j201 : Nat) (x1j201 : Int32) (x4j201 : Int32) (x5j201 : Int32) (x6j201 : Int32) (z0j201 : Int32) : Prop := (d_j201 ≤ mc ∧ e_j201 ≤ ms) ∧ wu_Mo_pop y_j201 (fun (s_39 : St) (r_38 : Int32) => ((¬ r_38 = 0 → ∃ b_40 : Nat, sO s_39 a0 45 = some b_40 ∧ cl b_40 = 13 ∧ xA y_j201 s_39 b_40 46 r_38 (fun x_43 : Int32 => wu_Mo_slotOf y_j201 (fun (s_45 : St) (r_44 : Int32) => ((¬ x4j201 = 47 → ∃ b_51 : Nat, sO s_45 a0 45 = some b_51 ∧ cl b_51 = 13 ∧ xA y_j201 s_45 b_51 51 (x_43 + r_44) (fun x_54 : Int32 => wu_Mo_push y_j201 (fun (s_56 : St) => wja_Mo_fieldStep_281 mc ms Post a0 y_j201 s_56 d_j201 e_j201 x1j201) s_45 a0 x1j201 x_54 x6j201)) ∧ (x4j201 = 47 → ∃ b_57 : Nat, sO s_45 a0 45 = some b_57 ∧ cl b_57 = 13 ∧ xS y_j201 s_45 b_57 51 (x_43 + r_44) z0j201 (fun s_60 : St => wja_Mo_fieldStep_281 mc ms Post a0 y_j201 s_60 d_j201 e_j201 x1j201)))) s_39 a0 x5j201)) ∧ (r_38 = 0 → ∃ mc_66 ms_67 : Nat, (d_j201 + mc_66 ≤ mc ∧ e_j201 + ms_67 ≤ ms) ∧ wa_Mo_throwNew mc_66 ms_67 y_j201 (fun (y_63 : Ly) (s_62 : St) (d_64 e_65 : Nat) => (d_j201 + d_64 ≤ mc ∧ e_j201 + e_65 ≤ ms) ∧ Post y_63 s_62 1 (d_j201 + d_64) (e_j201 + e_65)) s_39 a0 0 2))) s_j201 a0 x1j201
def wja_Mo_fieldStep_49 (mc ms : Nat) (Post : Ly → St → Int32 → Nat → Nat → Prop) (a0 : Nat) (y_j49 : Ly) (s_j49 : St) (d_j49 e_j49 : Nat) (x1j49 : Int32) (x4j49 : Int32) (x5j49 : Int32) (z0j49 : Int32) : Prop := (d_j49 ≤ mc ∧ e_j49 ≤ ms) ∧ ((x4j49 = 48 → wja_Mo_fieldStep_65 mc ms Post a0 y_j49 s_j49 d_j49 e_j49 x1j49 x4j49 x5j49 z0j49) ∧ (¬ (x4j49 = 48) → ((¬ x4j49 = 49 → wu_Mo_tally y_j49 (fun (s_37 : St) => ((¬ x4j49 = 47 → wja_Mo_fieldStep_201 mc ms Post a0 y_j49 s_37 d_j49 e_j49 x1j49 x4j49 x5j49 z0j49 0) ∧ (x4j49 = 47 → wu_Mo_pop y_j49 (fun (s_70 : St) (r_69 : Int32) => wja_Mo_fieldStep_201 mc ms Post a0 y_j49 s_70 d_j49 e_j49 x1j49 x4j49 x5j49 z0j49 r_69) s_37 a0 x1j49))) s_j49 a0 x4j49) ∧ (x4j49 = 49 → wja_Mo_fieldStep_65 mc ms Post a0 y_j49 s_j49 d_j49 e_j49 x1j49 x4j49 x5j49 z0j49))))
def wa_Mo_fieldStep (mc ms : Nat) (y : Ly) (Post : Ly → St → Int32 → Nat → Nat → Prop) (σ : St) (a0 : Nat) (v1 : Int32) (v2 : Int32) (v3 : Int32) (v4 : Int32) : Prop := wu_Mo_findField y (fun (s_2 : St) (r_1 : Int32) => ((0 ≤ r_1 → ∃ b_3 : Nat, sO s_2 a0 45 = some b_3 ∧ cl b_3 = 13 ∧ xA y s_2 b_3 13 r_1 (fun x_6 : Int32 => ((x_6 = 1 → wja_Mo_fieldStep_49 mc ms Post a0 y s_2 0 0 v1 v4 r_1 0) ∧ (¬ (x_6 = 1) → wja_Mo_fieldStep_49 mc ms Post a0 y s_2 0 0 v1 v4 r_1 1)))) ∧ (¬ (0 ≤ r_1) → ∃ mc_76 ms_77 : Nat, (0 + mc_76 ≤ mc ∧ 0 + ms_77 ≤ ms) ∧ wa_Mo_throwsAt mc_76 ms_77 y (fun (y_73 : Ly) (s_72 : St) (r_71 : Int32) (d_74 e_75 : Nat) => (0 + d_74 ≤ mc ∧ 0 + e_75 ≤ ms) ∧ Post y_73 s_72 r_71 (0 + d_74) (0 + e_75)) s_2 a0 v4 (sV s_2 a0 81) (sV s_2 a0 80)))) σ a0 v4 v3 v2
set_option maxHeartbeats 4000000 in
set_option maxRecDepth 100000 in
theorem ca_Mo_fieldStep (l : Launch) (D : va_G) (g : Nat → ClassId) (ad : Nat → Nat) (mc ms : Nat) (y : Ly) (Post : Ly → St → Int32 → Nat → Nat → Prop) (σ : St) (a0 : Nat) (v1 : Int32) (v2 : Int32) (v3 : Int32) (v4 : Int32) (sz uz : Nat) (h_a0 : cl a0 = 14) (h : wa_Mo_fieldStep mc ms y Post σ a0 v1 v2 v3 v4) : Met l y_Mo_fieldStep (mw y_Mo_fieldStep b_Mo_fieldStep 10 (some .int)) (ra_Mo_fieldStep mc ms) (PCu g D [] [.ref (ad a0), .int v1, .int v2, .int v3, .int v4] sz uz (ws g ad y σ)) (va_Qi (fun (r : Int32) (u : Ly × St × Nat × Nat) => Post u.1 u.2.1 r u.2.2.1 u.2.2.2) (QU D (va_A (ws g ad y σ) sz) (fun u => ws g ad u.1 u.2.1) sz uz (fun u => u.2.2.1) (fun u => u.2.2.2)) (va_A (ws g ad y σ) sz)) mc ms (va_A (ws g ad y σ) sz) := by
  refine ofIu (by decide +kernel) (Nat.le_of_ble_eq_true rfl) ?_
  intro p e s m args below meth c A Q ls H locs G hsz hP hD hS hl hret
  subst hsz
  have hl : lv_has ls 10 [(0, .ref (ad a0)), (1, .int v1), (2, .int v2), (3, .int v3), (4, .int v4)] := hl
  have hd : 0 ≤ mc ∧ 0 ≤ ms := ⟨Nat.zero_le _, Nat.zero_le _⟩
  unfold wa_Mo_fieldStep at h
  refine lv_aload_n G.1 G.2.1 d_Mo_fieldStep_0 rfl (lv_at hl 0 rfl) ?_
  refine lv_iload G.1 G.2.1 d_Mo_fieldStep_1 (lv_at hl 4 rfl) ?_
  refine lv_iload_n G.1 G.2.1 d_Mo_fieldStep_3 rfl (lv_at hl 3 rfl) ?_
  refine lv_iload_n G.1 G.2.1 d_Mo_fieldStep_4 rfl (lv_at hl 2 rfl) ?_
  refine ucVi (As := [.int v4, .int v3, .int v2]) (rest := []) G hP hD hS (cu_Mo_findField l D g ad y _ σ a0 v4 v3 v2 H.size h_a0 h) w9_Mo_findField q3931 ⟨Nat.le_of_ble_eq_true rfl, Nat.le_of_ble_eq_true rfl⟩ rfl rfl h_a0 (q := (RMo, TMo, 131)) rfl rfl hl.1 rfl (Nat.le_of_ble_eq_true rfl) rfl hd d_Mo_fieldStep_5 (fun r_1 s_2 H locs h hP hD hS => ?_)
  refine lv_istore (lv' := [(5, .int r_1), (0, .ref (ad a0)), (1, .int v1), (2, .int v2), (3, .int v3), (4, .int v4)]) G.1 G.2.1 d_Mo_fieldStep_8 hl (by decide) rfl (fun ls hl => ?_)
  refine lv_iload G.1 G.2.1 d_Mo_fieldStep_10 (lv_at hl 0 rfl) ?_
  refine lv_if_ge (tgt := 30) G.1 G.2.1 d_Mo_fieldStep_12 (by decide) (fun c12 => ?_) (fun c12 => ?_)
  · skip
    have h := h.1 c12
    refine lv_aload_n G.1 G.2.1 d_Mo_fieldStep_30 rfl (lv_at hl 1 rfl) ?_
    obtain ⟨b_3, e_4, c_5, h⟩ := h
    refine ugf (v := .ref (ad b_3)) G hP h_a0 iMo rfl 45 (by decide) rfl q3109 rfl (by show va_rf ((sO s_2 a0 45).map ad) = _; rw [e_4]; rfl) d_Mo_fieldStep_31 ?_
    refine ugfN (v := .ref (yP y b_3 13)) G hP c_5 iMw rfl 13 (by decide) rfl q2730 rfl rfl d_Mo_fieldStep_34 ?_
    refine W.eq (g2 := F0 m 37 ls [.ref (yP y b_3 13)]) rfl ?_
    refine lv_iload G.1 G.2.1 d_Mo_fieldStep_37 (lv_at hl 0 rfl) ?_
    refine uiald G hP (kdp c_5 rfl) (typ c_5 rfl) h d_Mo_fieldStep_39 (fun x_6 h => ?_)
    refine lv_iconst (v := 1) G.1 G.2.1 d_Mo_fieldStep_40 (by decide) ?_
    have J_49 : ∀ (y_j49 : Ly) (s_j49 : St) (d_j49 e_j49 : Nat) (x1j49 : Int32) (x4j49 : Int32) (x5j49 : Int32) (z0j49 : Int32) (H : Heap) (locs : List Loc), wja_Mo_fieldStep_49 mc ms Post a0 y_j49 s_j49 d_j49 e_j49 x1j49 x4j49 x5j49 z0j49 → va_P D CL (ws g ad y_j49 s_j49) H → va_D A (ws g ad y_j49 s_j49) → va_S A s.heap H locs → ∀ ls, lv_has ls 10 [(0, .ref (ad a0)), (1, .int x1j49), (4, .int x4j49), (5, .int x5j49)] → W p l e (ra_Mo_fieldStep mc ms) s m args below meth c H locs d_j49 e_j49 Q (F0 m 49 ls [.int z0j49]) := by
      intro y_j49 s_j49 d_j49 e_j49 x1j49 x4j49 x5j49 z0j49 H locs h hP hD hS ls hl
      unfold wja_Mo_fieldStep_49 at h
      obtain ⟨hd, h⟩ := h
      refine lv_istore (lv' := [(6, .int z0j49), (0, .ref (ad a0)), (1, .int x1j49), (4, .int x4j49), (5, .int x5j49)]) G.1 G.2.1 d_Mo_fieldStep_49 hl (by decide) rfl (fun ls hl => ?_)
      refine lv_iload G.1 G.2.1 d_Mo_fieldStep_51 (lv_at hl 3 rfl) ?_
      refine lv_bipush (v := 48) G.1 G.2.1 d_Mo_fieldStep_53 (by decide) ?_
      have J_65 : ∀ (y_j65 : Ly) (s_j65 : St) (d_j65 e_j65 : Nat) (x1j65 : Int32) (x4j65 : Int32) (x5j65 : Int32) (x6j65 : Int32) (H : Heap) (locs : List Loc), wja_Mo_fieldStep_65 mc ms Post a0 y_j65 s_j65 d_j65 e_j65 x1j65 x4j65 x5j65 x6j65 → va_P D CL (ws g ad y_j65 s_j65) H → va_D A (ws g ad y_j65 s_j65) → va_S A s.heap H locs → ∀ ls, lv_has ls 10 [(0, .ref (ad a0)), (1, .int x1j65), (4, .int x4j65), (5, .int x5j65), (6, .int x6j65)] → W p l e (ra_Mo_fieldStep mc ms) s m args below meth c H locs d_j65 e_j65 Q (F0 m 65 ls []) := by
        intro y_j65 s_j65 d_j65 e_j65 x1j65 x4j65 x5j65 x6j65 H locs h hP hD hS ls hl
        unfold wja_Mo_fieldStep_65 at h
        obtain ⟨hd, h⟩ := h
        refine lv_aload_n G.1 G.2.1 d_Mo_fieldStep_65 rfl (lv_at hl 0 rfl) ?_
        refine lv_iload G.1 G.2.1 d_Mo_fieldStep_66 (lv_at hl 3 rfl) ?_
        refine lv_bipush (v := 8) G.1 G.2.1 d_Mo_fieldStep_68 (by decide) ?_
        refine lv_idiv G.1 G.2.1 d_Mo_fieldStep_70 (by decide) ?_
        refine ucVi (As := [.int (x5j65 / 8)]) (rest := []) G hP hD hS (cu_Mo_startOf l D g ad y_j65 _ s_j65 a0 (x5j65 / 8) H.size h_a0 h) w9_Mo_startOf q3875 ⟨Nat.le_of_ble_eq_true rfl, Nat.le_of_ble_eq_true rfl⟩ rfl rfl h_a0 (q := (RMo, TMo, 131)) rfl rfl hl.1 rfl (Nat.le_of_ble_eq_true rfl) rfl hd d_Mo_fieldStep_71 (fun r_7 s_8 H locs h hP hD hS => ?_)
        refine lv_istore (lv' := [(7, .int r_7), (0, .ref (ad a0)), (1, .int x1j65), (4, .int x4j65), (5, .int x5j65), (6, .int x6j65)]) G.1 G.2.1 d_Mo_fieldStep_74 hl (by decide) rfl (fun ls hl => ?_)
        refine lv_iload G.1 G.2.1 d_Mo_fieldStep_76 (lv_at hl 0 rfl) ?_
        refine lv_if_eq (tgt := 116) G.1 G.2.1 d_Mo_fieldStep_78 (by decide) (fun c78 => ?_) (fun c78 => ?_)
        · skip
          have h := h.1 c78
          refine lv_aload_n G.1 G.2.1 d_Mo_fieldStep_116 rfl (lv_at hl 1 rfl) ?_
          refine lv_iload G.1 G.2.1 d_Mo_fieldStep_117 (lv_at hl 3 rfl) ?_
          refine ucVv (As := [.int x4j65]) (rest := []) G hP hD hS (cu_Mo_tally l D g ad y_j65 _ s_8 a0 x4j65 H.size h_a0 h) w9_Mo_tally q3943 ⟨Nat.le_of_ble_eq_true rfl, Nat.le_of_ble_eq_true rfl⟩ rfl rfl h_a0 (q := (RMo, TMo, 131)) rfl rfl hl.1 rfl (Nat.le_of_ble_eq_true rfl) rfl hd d_Mo_fieldStep_119 (fun s_10 H locs h hP hD hS => ?_)
          refine W.eq (g2 := F0 m 122 ls []) rfl ?_
          refine lv_iload G.1 G.2.1 d_Mo_fieldStep_122 (lv_at hl 3 rfl) ?_
          refine lv_bipush (v := 48) G.1 G.2.1 d_Mo_fieldStep_124 (by decide) ?_
          have J_164 : ∀ (y_j164 : Ly) (s_j164 : St) (d_j164 e_j164 : Nat) (x1j164 : Int32) (H : Heap) (locs : List Loc), wja_Mo_fieldStep_164 mc ms Post a0 y_j164 s_j164 d_j164 e_j164 x1j164 → va_P D CL (ws g ad y_j164 s_j164) H → va_D A (ws g ad y_j164 s_j164) → va_S A s.heap H locs → ∀ ls, lv_has ls 10 [(0, .ref (ad a0)), (1, .int x1j164)] → W p l e (ra_Mo_fieldStep mc ms) s m args below meth c H locs d_j164 e_j164 Q (F0 m 164 ls []) := by
            intro y_j164 s_j164 d_j164 e_j164 x1j164 H locs h hP hD hS ls hl
            unfold wja_Mo_fieldStep_164 at h
            obtain ⟨hd, h⟩ := h
            refine lv_aload_n G.1 G.2.1 d_Mo_fieldStep_164 rfl (lv_at hl 0 rfl) ?_
            obtain ⟨b_11, e_12, c_13, h⟩ := h
            refine ugf (v := .ref (ad b_11)) G hP h_a0 iMo rfl 46 (by decide) rfl q3110 rfl (by show va_rf ((sO s_j164 a0 46).map ad) = _; rw [e_12]; rfl) d_Mo_fieldStep_165 ?_
            refine ugfN (v := .ref (yP y_j164 b_11 18)) G hP c_13 iMr rfl 18 (by decide) rfl q3009 rfl rfl d_Mo_fieldStep_168 ?_
            refine lv_iload_n G.1 G.2.1 d_Mo_fieldStep_171 rfl (lv_at hl 1 rfl) ?_
            refine lv_dup2_11 G.1 G.2.1 d_Mo_fieldStep_172 rfl rfl ?_
            refine uiald G hP (kdp c_13 rfl) (typ c_13 rfl) h d_Mo_fieldStep_173 (fun x_14 h => ?_)
            refine lv_iconst (v := 1) G.1 G.2.1 d_Mo_fieldStep_174 (by decide) ?_
            refine lv_iadd G.1 G.2.1 d_Mo_fieldStep_175 ?_
            refine uiast G hP hD hS (kdp c_13 rfl) (typ c_13 rfl) h d_Mo_fieldStep_176 (fun s_15 H locs h hP hD hS => ?_)
            refine lv_iconst (v := 1) G.1 G.2.1 d_Mo_fieldStep_177 (by decide) ?_
            exact hret _ (y_j164, s_15, d_j164, e_j164) _ _ _ _ _ ls h hP hD hS (Nat.le_refl _) (Nat.le_refl _) hd.1 hd.2 d_Mo_fieldStep_178
          refine lv_icmp_ne (tgt := 149) G.1 G.2.1 d_Mo_fieldStep_126 (by decide) (fun c126 => ?_) (fun c126 => ?_)
          · skip
            have h := h.1 c126
            refine lv_aload_n G.1 G.2.1 d_Mo_fieldStep_149 rfl (lv_at hl 1 rfl) ?_
            obtain ⟨b_16, e_17, c_18, h⟩ := h
            refine ugf (v := .ref (ad b_16)) G hP h_a0 iMo rfl 45 (by decide) rfl q3109 rfl (by show va_rf ((sO s_10 a0 45).map ad) = _; rw [e_17]; rfl) d_Mo_fieldStep_150 ?_
            refine ugfN (v := .ref (yP y_j65 b_16 17)) G hP c_18 iMw rfl 17 (by decide) rfl q2738 rfl rfl d_Mo_fieldStep_153 ?_
            refine lv_iload G.1 G.2.1 d_Mo_fieldStep_156 (lv_at hl 4 rfl) ?_
            refine lv_aload_n G.1 G.2.1 d_Mo_fieldStep_158 rfl (lv_at hl 1 rfl) ?_
            refine lv_iload_n G.1 G.2.1 d_Mo_fieldStep_159 rfl (lv_at hl 2 rfl) ?_
            refine ucVi (As := [.int x1j65]) (rest := [.int x5j65, .ref (yP y_j65 b_16 17)]) G hP hD hS (cu_Mo_pop l D g ad y_j65 _ s_10 a0 x1j65 H.size h_a0 h) w9_Mo_pop q3947 ⟨Nat.le_of_ble_eq_true rfl, Nat.le_of_ble_eq_true rfl⟩ rfl rfl h_a0 (q := (RMo, TMo, 131)) rfl rfl hl.1 rfl (Nat.le_of_ble_eq_true rfl) rfl hd d_Mo_fieldStep_160 (fun r_19 s_20 H locs h hP hD hS => ?_)
            refine uiast G hP hD hS (kdp c_18 rfl) (typ c_18 rfl) h d_Mo_fieldStep_163 (fun s_21 H locs h hP hD hS => ?_)
            exact J_164 y_j65 s_21 d_j65 e_j65 x1j65 H locs h hP hD hS ls (lv_sub hl [1, 2] rfl)
          · skip
            have h := h.2 c126
            refine lv_aload_n G.1 G.2.1 d_Mo_fieldStep_129 rfl (lv_at hl 1 rfl) ?_
            refine lv_iload_n G.1 G.2.1 d_Mo_fieldStep_130 rfl (lv_at hl 2 rfl) ?_
            refine lv_aload_n G.1 G.2.1 d_Mo_fieldStep_131 rfl (lv_at hl 1 rfl) ?_
            obtain ⟨b_22, e_23, c_24, h⟩ := h
            refine ugf (v := .ref (ad b_22)) G hP h_a0 iMo rfl 45 (by decide) rfl q3109 rfl (by show va_rf ((sO s_10 a0 45).map ad) = _; rw [e_23]; rfl) d_Mo_fieldStep_132 ?_
            refine ugfN (v := .ref (yP y_j65 b_22 17)) G hP c_24 iMw rfl 17 (by decide) rfl q2738 rfl rfl d_Mo_fieldStep_135 ?_
            refine lv_iload G.1 G.2.1 d_Mo_fieldStep_138 (lv_at hl 4 rfl) ?_
            refine uiald G hP (kdp c_24 rfl) (typ c_24 rfl) h d_Mo_fieldStep_140 (fun x_25 h => ?_)
            refine lv_iload G.1 G.2.1 d_Mo_fieldStep_141 (lv_at hl 5 rfl) ?_
            refine ucVv (As := [.int x1j65, .int x_25, .int x6j65]) (rest := []) G hP hD hS (cu_Mo_push l D g ad y_j65 _ s_10 a0 x1j65 x_25 x6j65 H.size h_a0 h) w9_Mo_push q3907 ⟨Nat.le_of_ble_eq_true rfl, Nat.le_of_ble_eq_true rfl⟩ rfl rfl h_a0 (q := (RMo, TMo, 131)) rfl rfl hl.1 rfl (Nat.le_of_ble_eq_true rfl) rfl hd d_Mo_fieldStep_143 (fun s_27 H locs h hP hD hS => ?_)
            refine W.eq (g2 := F0 m 146 ls []) rfl ?_
            refine lv_goto (tgt := 164) G.1 G.2.1 d_Mo_fieldStep_146 (by decide) ?_
            exact J_164 y_j65 s_27 d_j65 e_j65 x1j65 H locs h hP hD hS ls (lv_sub hl [1, 2] rfl)
        · skip
          have h := h.2 c78
          refine lv_iload G.1 G.2.1 d_Mo_fieldStep_81 (lv_at hl 0 rfl) ?_
          refine lv_iconst (v := 3) G.1 G.2.1 d_Mo_fieldStep_83 (by decide) ?_
          have J_115 : ∀ (y_j115 : Ly) (s_j115 : St) (d_j115 e_j115 : Nat) (z0j115 : Int32) (H : Heap) (locs : List Loc), wja_Mo_fieldStep_115 mc ms Post a0 y_j115 s_j115 d_j115 e_j115 z0j115 → va_P D CL (ws g ad y_j115 s_j115) H → va_D A (ws g ad y_j115 s_j115) → va_S A s.heap H locs → ∀ ls, lv_has ls 10 [] → W p l e (ra_Mo_fieldStep mc ms) s m args below meth c H locs d_j115 e_j115 Q (F0 m 115 ls [.int z0j115]) := by
            intro y_j115 s_j115 d_j115 e_j115 z0j115 H locs h hP hD hS ls hl
            unfold wja_Mo_fieldStep_115 at h
            obtain ⟨hd, h⟩ := h
            exact hret _ (y_j115, s_j115, d_j115, e_j115) _ _ _ _ _ ls h hP hD hS (Nat.le_refl _) (Nat.le_refl _) hd.1 hd.2 d_Mo_fieldStep_115
          refine lv_icmp_ne (tgt := 104) G.1 G.2.1 d_Mo_fieldStep_84 (by decide) (fun c84 => ?_) (fun c84 => ?_)
          · skip
            have h := h.1 c84
            refine W.eq (g2 := F0 m 104 ls []) rfl ?_
            refine lv_iload G.1 G.2.1 d_Mo_fieldStep_104 (lv_at hl 0 rfl) ?_
            refine lv_iconst (v := 2) G.1 G.2.1 d_Mo_fieldStep_106 (by decide) ?_
            refine lv_icmp_ne (tgt := 114) G.1 G.2.1 d_Mo_fieldStep_107 (by decide) (fun c107 => ?_) (fun c107 => ?_)
            · skip
              have h := h.1 c107
              refine lv_iconst (v := 0) G.1 G.2.1 d_Mo_fieldStep_114 (by decide) ?_
              exact J_115 y_j65 s_8 d_j65 e_j65 0 H locs h hP hD hS ls (lv_sub hl [] rfl)
            · skip
              have h := h.2 c107
              refine lv_iconst (v := 2) G.1 G.2.1 d_Mo_fieldStep_110 (by decide) ?_
              refine lv_goto (tgt := 115) G.1 G.2.1 d_Mo_fieldStep_111 (by decide) ?_
              exact J_115 y_j65 s_8 d_j65 e_j65 2 H locs h hP hD hS ls (lv_sub hl [] rfl)
          · skip
            have h := h.2 c84
            refine W.eq (g2 := F0 m 87 ls []) rfl ?_
            refine lv_aload_n G.1 G.2.1 d_Mo_fieldStep_87 rfl (lv_at hl 1 rfl) ?_
            refine lv_iload G.1 G.2.1 d_Mo_fieldStep_88 (lv_at hl 3 rfl) ?_
            refine lv_aload_n G.1 G.2.1 d_Mo_fieldStep_90 rfl (lv_at hl 1 rfl) ?_
            refine ugf (v := .int (sV s_8 a0 81)) G hP h_a0 iMo rfl 81 (by decide) rfl q3145 rfl rfl d_Mo_fieldStep_91 ?_
            refine lv_aload_n G.1 G.2.1 d_Mo_fieldStep_94 rfl (lv_at hl 1 rfl) ?_
            refine ugf (v := .int (sV s_8 a0 80)) G hP h_a0 iMo rfl 80 (by decide) rfl q3144 rfl rfl d_Mo_fieldStep_95 ?_
            obtain ⟨mc_33, ms_34, hr_35, h⟩ := h
            refine uaVi (As := [.int x4j65, .int (sV s_8 a0 81), .int (sV s_8 a0 80)]) (rest := []) G hP hD hS (ca_Mo_throwsAt l D g ad mc_33 ms_34 y_j65 _ s_8 a0 x4j65 (sV s_8 a0 81) (sV s_8 a0 80) H.size (us H) h_a0 h) w9_Mo_throwsAt q3939 ⟨Nat.le_of_ble_eq_true rfl, Nat.le_of_ble_eq_true rfl⟩ rfl rfl h_a0 (q := (RMo, TMo, 131)) rfl rfl hl.1 rfl (Nat.le_of_ble_eq_true rfl) rfl hr_35 d_Mo_fieldStep_98 (fun r_28 y_30 s_29 d_31 e_32 H locs h hP hD hS => ?_)
            have hl := lv_sub (l' := []) hl [] rfl
            obtain ⟨hd, h⟩ := h
            refine lv_goto (tgt := 115) G.1 G.2.1 d_Mo_fieldStep_101 (by decide) ?_
            exact J_115 y_30 s_29 (d_j65 + d_31) (e_j65 + e_32) r_28 H locs h hP hD hS ls (lv_sub hl [] rfl)
      refine lv_icmp_eq (tgt := 65) G.1 G.2.1 d_Mo_fieldStep_55 (by decide) (fun c55 => ?_) (fun c55 => ?_)
      · skip
        have h := h.1 c55
        exact J_65 y_j49 s_j49 d_j49 e_j49 x1j49 x4j49 x5j49 z0j49 H locs h hP hD hS ls (lv_sub hl [1, 2, 3, 4, 0] rfl)
      · skip
        have h := h.2 c55
        refine lv_iload G.1 G.2.1 d_Mo_fieldStep_58 (lv_at hl 3 rfl) ?_
        refine lv_bipush (v := 49) G.1 G.2.1 d_Mo_fieldStep_60 (by decide) ?_
        refine lv_icmp_ne (tgt := 179) G.1 G.2.1 d_Mo_fieldStep_62 (by decide) (fun c62 => ?_) (fun c62 => ?_)
        · skip
          have h := h.1 c62
          refine lv_aload_n G.1 G.2.1 d_Mo_fieldStep_179 rfl (lv_at hl 1 rfl) ?_
          refine lv_iload G.1 G.2.1 d_Mo_fieldStep_180 (lv_at hl 3 rfl) ?_
          refine ucVv (As := [.int x4j49]) (rest := []) G hP hD hS (cu_Mo_tally l D g ad y_j49 _ s_j49 a0 x4j49 H.size h_a0 h) w9_Mo_tally q3943 ⟨Nat.le_of_ble_eq_true rfl, Nat.le_of_ble_eq_true rfl⟩ rfl rfl h_a0 (q := (RMo, TMo, 131)) rfl rfl hl.1 rfl (Nat.le_of_ble_eq_true rfl) rfl hd d_Mo_fieldStep_182 (fun s_37 H locs h hP hD hS => ?_)
          refine lv_iload G.1 G.2.1 d_Mo_fieldStep_185 (lv_at hl 3 rfl) ?_
          refine W.eq (g2 := F0 m 187 ls [.int x4j49]) rfl ?_
          refine lv_bipush (v := 47) G.1 G.2.1 d_Mo_fieldStep_187 (by decide) ?_
          have J_201 : ∀ (y_j201 : Ly) (s_j201 : St) (d_j201 e_j201 : Nat) (x1j201 : Int32) (x4j201 : Int32) (x5j201 : Int32) (x6j201 : Int32) (z0j201 : Int32) (H : Heap) (locs : List Loc), wja_Mo_fieldStep_201 mc ms Post a0 y_j201 s_j201 d_j201 e_j201 x1j201 x4j201 x5j201 x6j201 z0j201 → va_P D CL (ws g ad y_j201 s_j201) H → va_D A (ws g ad y_j201 s_j201) → va_S A s.heap H locs → ∀ ls, lv_has ls 10 [(0, .ref (ad a0)), (1, .int x1j201), (4, .int x4j201), (5, .int x5j201), (6, .int x6j201)] → W p l e (ra_Mo_fieldStep mc ms) s m args below meth c H locs d_j201 e_j201 Q (F0 m 201 ls [.int z0j201]) := by
            intro y_j201 s_j201 d_j201 e_j201 x1j201 x4j201 x5j201 x6j201 z0j201 H locs h hP hD hS ls hl
            unfold wja_Mo_fieldStep_201 at h
            obtain ⟨hd, h⟩ := h
            refine lv_istore (lv' := [(7, .int z0j201), (0, .ref (ad a0)), (1, .int x1j201), (4, .int x4j201), (5, .int x5j201), (6, .int x6j201)]) G.1 G.2.1 d_Mo_fieldStep_201 hl (by decide) rfl (fun ls hl => ?_)
            refine lv_aload_n G.1 G.2.1 d_Mo_fieldStep_203 rfl (lv_at hl 1 rfl) ?_
            refine lv_iload_n G.1 G.2.1 d_Mo_fieldStep_204 rfl (lv_at hl 2 rfl) ?_
            refine ucVi (As := [.int x1j201]) (rest := []) G hP hD hS (cu_Mo_pop l D g ad y_j201 _ s_j201 a0 x1j201 H.size h_a0 h) w9_Mo_pop q3947 ⟨Nat.le_of_ble_eq_true rfl, Nat.le_of_ble_eq_true rfl⟩ rfl rfl h_a0 (q := (RMo, TMo, 131)) rfl rfl hl.1 rfl (Nat.le_of_ble_eq_true rfl) rfl hd d_Mo_fieldStep_205 (fun r_38 s_39 H locs h hP hD hS => ?_)
            refine lv_istore (lv' := [(8, .int r_38), (7, .int z0j201), (0, .ref (ad a0)), (1, .int x1j201), (4, .int x4j201), (5, .int x5j201), (6, .int x6j201)]) G.1 G.2.1 d_Mo_fieldStep_208 hl (by decide) rfl (fun ls hl => ?_)
            refine lv_iload G.1 G.2.1 d_Mo_fieldStep_210 (lv_at hl 0 rfl) ?_
            refine lv_if_ne (tgt := 223) G.1 G.2.1 d_Mo_fieldStep_212 (by decide) (fun c212 => ?_) (fun c212 => ?_)
            · skip
              have h := h.1 c212
              refine lv_aload_n G.1 G.2.1 d_Mo_fieldStep_223 rfl (lv_at hl 2 rfl) ?_
              obtain ⟨b_40, e_41, c_42, h⟩ := h
              refine ugf (v := .ref (ad b_40)) G hP h_a0 iMo rfl 45 (by decide) rfl q3109 rfl (by show va_rf ((sO s_39 a0 45).map ad) = _; rw [e_41]; rfl) d_Mo_fieldStep_224 ?_
              refine ugfN (v := .ref (yP y_j201 b_40 46)) G hP c_42 iMw rfl 46 (by decide) rfl q2792 rfl rfl d_Mo_fieldStep_227 ?_
              refine lv_iload G.1 G.2.1 d_Mo_fieldStep_230 (lv_at hl 0 rfl) ?_
              refine W.eq (g2 := F0 m 232 ls [.int r_38, .ref (yP y_j201 b_40 46)]) rfl ?_
              refine uiald G hP (kdp c_42 rfl) (typ c_42 rfl) h d_Mo_fieldStep_232 (fun x_43 h => ?_)
              refine lv_aload_n G.1 G.2.1 d_Mo_fieldStep_233 rfl (lv_at hl 2 rfl) ?_
              refine lv_iload G.1 G.2.1 d_Mo_fieldStep_234 (lv_at hl 5 rfl) ?_
              refine ucVi (As := [.int x5j201]) (rest := [.int x_43]) G hP hD hS (cu_Mo_slotOf l D g ad y_j201 _ s_39 a0 x5j201 H.size h_a0 h) w9_Mo_slotOf q3951 ⟨Nat.le_of_ble_eq_true rfl, Nat.le_of_ble_eq_true rfl⟩ rfl rfl h_a0 (q := (RMo, TMo, 131)) rfl rfl hl.1 rfl (Nat.le_of_ble_eq_true rfl) rfl hd d_Mo_fieldStep_236 (fun r_44 s_45 H locs h hP hD hS => ?_)
              refine lv_iadd G.1 G.2.1 d_Mo_fieldStep_239 ?_
              refine lv_istore (lv' := [(9, .int (x_43 + r_44)), (8, .int r_38), (7, .int z0j201), (0, .ref (ad a0)), (1, .int x1j201), (4, .int x4j201), (5, .int x5j201), (6, .int x6j201)]) G.1 G.2.1 d_Mo_fieldStep_240 hl (by decide) rfl (fun ls hl => ?_)
              refine lv_iload G.1 G.2.1 d_Mo_fieldStep_242 (lv_at hl 5 rfl) ?_
              refine lv_bipush (v := 47) G.1 G.2.1 d_Mo_fieldStep_244 (by decide) ?_
              have J_281 : ∀ (y_j281 : Ly) (s_j281 : St) (d_j281 e_j281 : Nat) (x1j281 : Int32) (H : Heap) (locs : List Loc), wja_Mo_fieldStep_281 mc ms Post a0 y_j281 s_j281 d_j281 e_j281 x1j281 → va_P D CL (ws g ad y_j281 s_j281) H → va_D A (ws g ad y_j281 s_j281) → va_S A s.heap H locs → ∀ ls, lv_has ls 10 [(0, .ref (ad a0)), (1, .int x1j281)] → W p l e (ra_Mo_fieldStep mc ms) s m args below meth c H locs d_j281 e_j281 Q (F0 m 281 ls []) := by
                intro y_j281 s_j281 d_j281 e_j281 x1j281 H locs h hP hD hS ls hl
                unfold wja_Mo_fieldStep_281 at h
                obtain ⟨hd, h⟩ := h
                refine lv_aload_n G.1 G.2.1 d_Mo_fieldStep_281 rfl (lv_at hl 0 rfl) ?_
                obtain ⟨b_46, e_47, c_48, h⟩ := h
                refine ugf (v := .ref (ad b_46)) G hP h_a0 iMo rfl 46 (by decide) rfl q3110 rfl (by show va_rf ((sO s_j281 a0 46).map ad) = _; rw [e_47]; rfl) d_Mo_fieldStep_282 ?_
                refine ugfN (v := .ref (yP y_j281 b_46 18)) G hP c_48 iMr rfl 18 (by decide) rfl q3009 rfl rfl d_Mo_fieldStep_285 ?_
                refine lv_iload_n G.1 G.2.1 d_Mo_fieldStep_288 rfl (lv_at hl 1 rfl) ?_
                refine lv_dup2_11 G.1 G.2.1 d_Mo_fieldStep_289 rfl rfl ?_
                refine uiald G hP (kdp c_48 rfl) (typ c_48 rfl) h d_Mo_fieldStep_290 (fun x_49 h => ?_)
                refine lv_iconst (v := 1) G.1 G.2.1 d_Mo_fieldStep_291 (by decide) ?_
                refine lv_iadd G.1 G.2.1 d_Mo_fieldStep_292 ?_
                refine uiast G hP hD hS (kdp c_48 rfl) (typ c_48 rfl) h d_Mo_fieldStep_293 (fun s_50 H locs h hP hD hS => ?_)
                refine lv_iconst (v := 1) G.1 G.2.1 d_Mo_fieldStep_294 (by decide) ?_
                exact hret _ (y_j281, s_50, d_j281, e_j281) _ _ _ _ _ ls h hP hD hS (Nat.le_refl _) (Nat.le_refl _) hd.1 hd.2 d_Mo_fieldStep_295
              refine lv_icmp_ne (tgt := 264) G.1 G.2.1 d_Mo_fieldStep_246 (by decide) (fun c246 => ?_) (fun c246 => ?_)
              · skip
                have h := h.1 c246
                refine lv_aload_n G.1 G.2.1 d_Mo_fieldStep_264 rfl (lv_at hl 3 rfl) ?_
                refine lv_iload_n G.1 G.2.1 d_Mo_fieldStep_265 rfl (lv_at hl 4 rfl) ?_
                refine lv_aload_n G.1 G.2.1 d_Mo_fieldStep_266 rfl (lv_at hl 3 rfl) ?_
                refine W.eq (g2 := F0 m 267 ls [.ref (ad a0), .int x1j201, .ref (ad a0)]) rfl ?_
                obtain ⟨b_51, e_52, c_53, h⟩ := h
                refine ugf (v := .ref (ad b_51)) G hP h_a0 iMo rfl 45 (by decide) rfl q3109 rfl (by show va_rf ((sO s_45 a0 45).map ad) = _; rw [e_52]; rfl) d_Mo_fieldStep_267 ?_
                refine ugfN (v := .ref (yP y_j201 b_51 51)) G hP c_53 iMw rfl 51 (by decide) rfl q2801 rfl rfl d_Mo_fieldStep_270 ?_
                refine lv_iload G.1 G.2.1 d_Mo_fieldStep_273 (lv_at hl 0 rfl) ?_
                refine uiald G hP (kdp c_53 rfl) (typ c_53 rfl) h d_Mo_fieldStep_275 (fun x_54 h => ?_)
                refine lv_iload G.1 G.2.1 d_Mo_fieldStep_276 (lv_at hl 7 rfl) ?_
                refine ucVv (As := [.int x1j201, .int x_54, .int x6j201]) (rest := []) G hP hD hS (cu_Mo_push l D g ad y_j201 _ s_45 a0 x1j201 x_54 x6j201 H.size h_a0 h) w9_Mo_push q3907 ⟨Nat.le_of_ble_eq_true rfl, Nat.le_of_ble_eq_true rfl⟩ rfl rfl h_a0 (q := (RMo, TMo, 131)) rfl rfl hl.1 rfl (Nat.le_of_ble_eq_true rfl) rfl hd d_Mo_fieldStep_278 (fun s_56 H locs h hP hD hS => ?_)
                exact J_281 y_j201 s_56 d_j201 e_j201 x1j201 H locs h hP hD hS ls (lv_sub hl [3, 4] rfl)
              · skip
                have h := h.2 c246
                refine lv_aload_n G.1 G.2.1 d_Mo_fieldStep_249 rfl (lv_at hl 3 rfl) ?_
                obtain ⟨b_57, e_58, c_59, h⟩ := h
                refine ugf (v := .ref (ad b_57)) G hP h_a0 iMo rfl 45 (by decide) rfl q3109 rfl (by show va_rf ((sO s_45 a0 45).map ad) = _; rw [e_58]; rfl) d_Mo_fieldStep_250 ?_
                refine ugfN (v := .ref (yP y_j201 b_57 51)) G hP c_59 iMw rfl 51 (by decide) rfl q2801 rfl rfl d_Mo_fieldStep_253 ?_
                refine W.eq (g2 := F0 m 256 ls [.ref (yP y_j201 b_57 51)]) rfl ?_
                refine lv_iload G.1 G.2.1 d_Mo_fieldStep_256 (lv_at hl 0 rfl) ?_
                refine lv_iload G.1 G.2.1 d_Mo_fieldStep_258 (lv_at hl 2 rfl) ?_
                refine uiast G hP hD hS (kdp c_59 rfl) (typ c_59 rfl) h d_Mo_fieldStep_260 (fun s_60 H locs h hP hD hS => ?_)
                refine lv_goto (tgt := 281) G.1 G.2.1 d_Mo_fieldStep_261 (by decide) ?_
                exact J_281 y_j201 s_60 d_j201 e_j201 x1j201 H locs h hP hD hS ls (lv_sub hl [3, 4] rfl)
            · skip
              have h := h.2 c212
              refine lv_aload_n G.1 G.2.1 d_Mo_fieldStep_215 rfl (lv_at hl 2 rfl) ?_
              refine lv_iconst (v := 0) G.1 G.2.1 d_Mo_fieldStep_216 (by decide) ?_
              refine lv_iconst (v := 2) G.1 G.2.1 d_Mo_fieldStep_217 (by decide) ?_
              obtain ⟨mc_66, ms_67, hr_68, h⟩ := h
              refine uaVv (As := [.int 0, .int 2]) (rest := []) G hP hD hS (ca_Mo_throwNew l D g ad mc_66 ms_67 y_j201 _ s_39 a0 0 2 H.size (us H) h_a0 h) w9_Mo_throwNew q3883 ⟨Nat.le_of_ble_eq_true rfl, Nat.le_of_ble_eq_true rfl⟩ rfl rfl h_a0 (q := (RMo, TMo, 131)) rfl rfl hl.1 rfl (Nat.le_of_ble_eq_true rfl) rfl hr_68 d_Mo_fieldStep_218 (fun y_63 s_62 d_64 e_65 H locs h hP hD hS => ?_)
              have hl := lv_sub (l' := []) hl [] rfl
              obtain ⟨hd, h⟩ := h
              refine W.eq (g2 := F0 m 221 ls []) rfl ?_
              refine lv_iconst (v := 1) G.1 G.2.1 d_Mo_fieldStep_221 (by decide) ?_
              exact hret _ (y_63, s_62, d_j201 + d_64, e_j201 + e_65) _ _ _ _ _ ls h hP hD hS (Nat.le_refl _) (Nat.le_refl _) hd.1 hd.2 d_Mo_fieldStep_222
          refine lv_icmp_ne (tgt := 200) G.1 G.2.1 d_Mo_fieldStep_189 (by decide) (fun c189 => ?_) (fun c189 => ?_)
          · skip
            have h := h.1 c189
            refine lv_iconst (v := 0) G.1 G.2.1 d_Mo_fieldStep_200 (by decide) ?_
            exact J_201 y_j49 s_37 d_j49 e_j49 x1j49 x4j49 x5j49 z0j49 0 H locs h hP hD hS ls (lv_sub hl [1, 2, 3, 4, 0] rfl)
          · skip
            have h := h.2 c189
            refine lv_aload_n G.1 G.2.1 d_Mo_fieldStep_192 rfl (lv_at hl 1 rfl) ?_
            refine lv_iload_n G.1 G.2.1 d_Mo_fieldStep_193 rfl (lv_at hl 2 rfl) ?_
            refine ucVi (As := [.int x1j49]) (rest := []) G hP hD hS (cu_Mo_pop l D g ad y_j49 _ s_37 a0 x1j49 H.size h_a0 h) w9_Mo_pop q3947 ⟨Nat.le_of_ble_eq_true rfl, Nat.le_of_ble_eq_true rfl⟩ rfl rfl h_a0 (q := (RMo, TMo, 131)) rfl rfl hl.1 rfl (Nat.le_of_ble_eq_true rfl) rfl hd d_Mo_fieldStep_194 (fun r_69 s_70 H locs h hP hD hS => ?_)
            refine lv_goto (tgt := 201) G.1 G.2.1 d_Mo_fieldStep_197 (by decide) ?_
            exact J_201 y_j49 s_70 d_j49 e_j49 x1j49 x4j49 x5j49 z0j49 r_69 H locs h hP hD hS ls (lv_sub hl [1, 2, 3, 4, 0] rfl)
        · skip
          have h := h.2 c62
          exact J_65 y_j49 s_j49 d_j49 e_j49 x1j49 x4j49 x5j49 z0j49 H locs h hP hD hS ls (lv_sub hl [1, 2, 3, 4, 0] rfl)
    refine lv_icmp_eq (tgt := 48) G.1 G.2.1 d_Mo_fieldStep_41 (by decide) (fun c41 => ?_) (fun c41 => ?_)
    · skip
      have h := h.1 c41
      refine lv_iconst (v := 0) G.1 G.2.1 d_Mo_fieldStep_48 (by decide) ?_
      exact J_49 y s_2 0 0 v1 v4 r_1 0 H locs h hP hD hS ls (lv_sub hl [1, 2, 5, 0] rfl)
    · skip
      have h := h.2 c41
      refine lv_iconst (v := 1) G.1 G.2.1 d_Mo_fieldStep_44 (by decide) ?_
      refine lv_goto (tgt := 49) G.1 G.2.1 d_Mo_fieldStep_45 (by decide) ?_
      exact J_49 y s_2 0 0 v1 v4 r_1 1 H locs h hP hD hS ls (lv_sub hl [1, 2, 5, 0] rfl)
  · skip
    have h := h.2 c12
    refine lv_aload_n G.1 G.2.1 d_Mo_fieldStep_15 rfl (lv_at hl 1 rfl) ?_
    refine lv_iload G.1 G.2.1 d_Mo_fieldStep_16 (lv_at hl 5 rfl) ?_
    refine lv_aload_n G.1 G.2.1 d_Mo_fieldStep_18 rfl (lv_at hl 1 rfl) ?_
    refine W.eq (g2 := F0 m 19 ls [.ref (ad a0), .int v4, .ref (ad a0)]) rfl ?_
    refine ugf (v := .int (sV s_2 a0 81)) G hP h_a0 iMo rfl 81 (by decide) rfl q3145 rfl rfl d_Mo_fieldStep_19 ?_
    refine lv_aload_n G.1 G.2.1 d_Mo_fieldStep_22 rfl (lv_at hl 1 rfl) ?_
    refine ugf (v := .int (sV s_2 a0 80)) G hP h_a0 iMo rfl 80 (by decide) rfl q3144 rfl rfl d_Mo_fieldStep_23 ?_
    obtain ⟨mc_76, ms_77, hr_78, h⟩ := h
    refine uaVi (As := [.int v4, .int (sV s_2 a0 81), .int (sV s_2 a0 80)]) (rest := []) G hP hD hS (ca_Mo_throwsAt l D g ad mc_76 ms_77 y _ s_2 a0 v4 (sV s_2 a0 81) (sV s_2 a0 80) H.size (us H) h_a0 h) w9_Mo_throwsAt q3939 ⟨Nat.le_of_ble_eq_true rfl, Nat.le_of_ble_eq_true rfl⟩ rfl rfl h_a0 (q := (RMo, TMo, 131)) rfl rfl hl.1 rfl (Nat.le_of_ble_eq_true rfl) rfl hr_78 d_Mo_fieldStep_26 (fun r_71 y_73 s_72 d_74 e_75 H locs h hP hD hS => ?_)
    have hl := lv_sub (l' := []) hl [] rfl
    obtain ⟨hd, h⟩ := h
    exact hret _ (y_73, s_72, 0 + d_74, 0 + e_75) _ _ _ _ _ ls h hP hD hS (Nat.le_refl _) (Nat.le_refl _) hd.1 hd.2 d_Mo_fieldStep_29
