def y_Ck_fits : MethodName := ⟨"ClassWorks$Checker", "fits", "(II)I"⟩
abbrev b_Ck_fits : ByteArray := prog_2_method_12_code
theorem q861 : Cond.fieldLink "ClassWorks$Checker" 192 "ClassWorks$World" "classNamed" "LClassWorks$Ints;" ∈ lw_ok := lw_okmem (List.mem_of_getElem? (i := 861) (by decide +kernel)) rfl
theorem q395 : Cond.fieldLink "ClassWorks$Checker" 195 "ClassWorks$Ints" "size" "I" ∈ lw_ok := lw_okmem (List.mem_of_getElem? (i := 395) (by decide +kernel)) rfl
theorem q832 : Cond.fieldLink "ClassWorks$Checker" 198 "ClassWorks$World" "rows" "[I" ∈ lw_ok := lw_okmem (List.mem_of_getElem? (i := 832) (by decide +kernel)) rfl
theorem d_Ck_fits_0 : decode b_Ck_fits 0 = .ok (.iload_n 1, 1) := by decide +kernel
theorem d_Ck_fits_1 : decode b_Ck_fits 1 = .ok (.iload_n 2, 1) := by decide +kernel
theorem d_Ck_fits_2 : decode b_Ck_fits 2 = .ok (.if_icmp .eq 8, 3) := by decide +kernel
theorem d_Ck_fits_5 : decode b_Ck_fits 5 = .ok (.iload_n 2, 1) := by decide +kernel
theorem d_Ck_fits_6 : decode b_Ck_fits 6 = .ok (.iconst 3, 1) := by decide +kernel
theorem d_Ck_fits_7 : decode b_Ck_fits 7 = .ok (.if_icmp .ne 5, 3) := by decide +kernel
theorem d_Ck_fits_10 : decode b_Ck_fits 10 = .ok (.iconst 0, 1) := by decide +kernel
theorem d_Ck_fits_11 : decode b_Ck_fits 11 = .ok (.ireturn, 1) := by decide +kernel
theorem d_Ck_fits_12 : decode b_Ck_fits 12 = .ok (.iload_n 1, 1) := by decide +kernel
theorem d_Ck_fits_13 : decode b_Ck_fits 13 = .ok (.iconst 2, 1) := by decide +kernel
theorem d_Ck_fits_14 : decode b_Ck_fits 14 = .ok (.if_icmp .ne 21, 3) := by decide +kernel
theorem d_Ck_fits_17 : decode b_Ck_fits 17 = .ok (.iload_n 2, 1) := by decide +kernel
theorem d_Ck_fits_18 : decode b_Ck_fits 18 = .ok (.iconst 1, 1) := by decide +kernel
theorem d_Ck_fits_19 : decode b_Ck_fits 19 = .ok (.if_icmp .eq 9, 3) := by decide +kernel
theorem d_Ck_fits_22 : decode b_Ck_fits 22 = .ok (.iload_n 2, 1) := by decide +kernel
theorem d_Ck_fits_23 : decode b_Ck_fits 23 = .ok (.bipush 9, 2) := by decide +kernel
theorem d_Ck_fits_25 : decode b_Ck_fits 25 = .ok (.if_icmp .lt 7, 3) := by decide +kernel
theorem d_Ck_fits_28 : decode b_Ck_fits 28 = .ok (.iconst 0, 1) := by decide +kernel
theorem d_Ck_fits_29 : decode b_Ck_fits 29 = .ok (.goto 5, 3) := by decide +kernel
theorem d_Ck_fits_32 : decode b_Ck_fits 32 = .ok (.bipush 37, 2) := by decide +kernel
theorem d_Ck_fits_34 : decode b_Ck_fits 34 = .ok (.ireturn, 1) := by decide +kernel
theorem d_Ck_fits_35 : decode b_Ck_fits 35 = .ok (.iload_n 1, 1) := by decide +kernel
theorem d_Ck_fits_36 : decode b_Ck_fits 36 = .ok (.iconst 1, 1) := by decide +kernel
theorem d_Ck_fits_37 : decode b_Ck_fits 37 = .ok (.if_icmp .eq 15, 3) := by decide +kernel
theorem d_Ck_fits_40 : decode b_Ck_fits 40 = .ok (.iload_n 1, 1) := by decide +kernel
theorem d_Ck_fits_41 : decode b_Ck_fits 41 = .ok (.bipush 9, 2) := by decide +kernel
theorem d_Ck_fits_43 : decode b_Ck_fits 43 = .ok (.if_icmp .lt 9, 3) := by decide +kernel
theorem d_Ck_fits_46 : decode b_Ck_fits 46 = .ok (.iload_n 2, 1) := by decide +kernel
theorem d_Ck_fits_47 : decode b_Ck_fits 47 = .ok (.bipush 9, 2) := by decide +kernel
theorem d_Ck_fits_49 : decode b_Ck_fits 49 = .ok (.if_icmp .ge 21, 3) := by decide +kernel
theorem d_Ck_fits_52 : decode b_Ck_fits 52 = .ok (.iload_n 1, 1) := by decide +kernel
theorem d_Ck_fits_53 : decode b_Ck_fits 53 = .ok (.iconst 1, 1) := by decide +kernel
theorem d_Ck_fits_54 : decode b_Ck_fits 54 = .ok (.if_icmp .ne 13, 3) := by decide +kernel
theorem d_Ck_fits_57 : decode b_Ck_fits 57 = .ok (.iload_n 2, 1) := by decide +kernel
theorem d_Ck_fits_58 : decode b_Ck_fits 58 = .ok (.bipush 9, 2) := by decide +kernel
theorem d_Ck_fits_60 : decode b_Ck_fits 60 = .ok (.if_icmp .ne 7, 3) := by decide +kernel
theorem d_Ck_fits_63 : decode b_Ck_fits 63 = .ok (.iconst 0, 1) := by decide +kernel
theorem d_Ck_fits_64 : decode b_Ck_fits 64 = .ok (.goto 5, 3) := by decide +kernel
theorem d_Ck_fits_67 : decode b_Ck_fits 67 = .ok (.bipush 37, 2) := by decide +kernel
theorem d_Ck_fits_69 : decode b_Ck_fits 69 = .ok (.ireturn, 1) := by decide +kernel
theorem d_Ck_fits_70 : decode b_Ck_fits 70 = .ok (.iload_n 2, 1) := by decide +kernel
theorem d_Ck_fits_71 : decode b_Ck_fits 71 = .ok (.bipush 9, 2) := by decide +kernel
theorem d_Ck_fits_73 : decode b_Ck_fits 73 = .ok (.if_icmp .ne 5, 3) := by decide +kernel
theorem d_Ck_fits_76 : decode b_Ck_fits 76 = .ok (.iconst 0, 1) := by decide +kernel
theorem d_Ck_fits_77 : decode b_Ck_fits 77 = .ok (.ireturn, 1) := by decide +kernel
theorem d_Ck_fits_78 : decode b_Ck_fits 78 = .ok (.aload_n 0, 1) := by decide +kernel
theorem d_Ck_fits_79 : decode b_Ck_fits 79 = .ok (.getfield 78, 3) := by decide +kernel
theorem d_Ck_fits_82 : decode b_Ck_fits 82 = .ok (.getfield 192, 3) := by decide +kernel
theorem d_Ck_fits_85 : decode b_Ck_fits 85 = .ok (.getfield 116, 3) := by decide +kernel
theorem d_Ck_fits_88 : decode b_Ck_fits 88 = .ok (.astore_n 3, 1) := by decide +kernel
theorem d_Ck_fits_89 : decode b_Ck_fits 89 = .ok (.aload_n 0, 1) := by decide +kernel
theorem d_Ck_fits_90 : decode b_Ck_fits 90 = .ok (.getfield 78, 3) := by decide +kernel
theorem d_Ck_fits_93 : decode b_Ck_fits 93 = .ok (.getfield 192, 3) := by decide +kernel
theorem d_Ck_fits_96 : decode b_Ck_fits 96 = .ok (.getfield 195, 3) := by decide +kernel
theorem d_Ck_fits_99 : decode b_Ck_fits 99 = .ok (.istore 4, 2) := by decide +kernel
theorem d_Ck_fits_101 : decode b_Ck_fits 101 = .ok (.iload_n 2, 1) := by decide +kernel
theorem d_Ck_fits_102 : decode b_Ck_fits 102 = .ok (.iload 4, 2) := by decide +kernel
theorem d_Ck_fits_104 : decode b_Ck_fits 104 = .ok (.if_icmp .ge 11, 3) := by decide +kernel
theorem d_Ck_fits_107 : decode b_Ck_fits 107 = .ok (.aload_n 3, 1) := by decide +kernel
theorem d_Ck_fits_108 : decode b_Ck_fits 108 = .ok (.iload_n 2, 1) := by decide +kernel
theorem d_Ck_fits_109 : decode b_Ck_fits 109 = .ok (.iaload, 1) := by decide +kernel
theorem d_Ck_fits_110 : decode b_Ck_fits 110 = .ok (.iconst 1, 1) := by decide +kernel
theorem d_Ck_fits_111 : decode b_Ck_fits 111 = .ok (.isub, 1) := by decide +kernel
theorem d_Ck_fits_112 : decode b_Ck_fits 112 = .ok (.goto 4, 3) := by decide +kernel
theorem d_Ck_fits_115 : decode b_Ck_fits 115 = .ok (.iconst (-1), 1) := by decide +kernel
theorem d_Ck_fits_116 : decode b_Ck_fits 116 = .ok (.istore 5, 2) := by decide +kernel
theorem d_Ck_fits_118 : decode b_Ck_fits 118 = .ok (.iload 5, 2) := by decide +kernel
theorem d_Ck_fits_120 : decode b_Ck_fits 120 = .ok (.ifCond .ge 6, 3) := by decide +kernel
theorem d_Ck_fits_123 : decode b_Ck_fits 123 = .ok (.bipush 43, 2) := by decide +kernel
theorem d_Ck_fits_125 : decode b_Ck_fits 125 = .ok (.ireturn, 1) := by decide +kernel
theorem d_Ck_fits_126 : decode b_Ck_fits 126 = .ok (.aload_n 0, 1) := by decide +kernel
theorem d_Ck_fits_127 : decode b_Ck_fits 127 = .ok (.getfield 78, 3) := by decide +kernel
theorem d_Ck_fits_130 : decode b_Ck_fits 130 = .ok (.getfield 198, 3) := by decide +kernel
theorem d_Ck_fits_133 : decode b_Ck_fits 133 = .ok (.iload 5, 2) := by decide +kernel
theorem d_Ck_fits_135 : decode b_Ck_fits 135 = .ok (.bipush 19, 2) := by decide +kernel
theorem d_Ck_fits_137 : decode b_Ck_fits 137 = .ok (.imul, 1) := by decide +kernel
theorem d_Ck_fits_138 : decode b_Ck_fits 138 = .ok (.iconst 1, 1) := by decide +kernel
theorem d_Ck_fits_139 : decode b_Ck_fits 139 = .ok (.iadd, 1) := by decide +kernel
theorem d_Ck_fits_140 : decode b_Ck_fits 140 = .ok (.iaload, 1) := by decide +kernel
theorem d_Ck_fits_141 : decode b_Ck_fits 141 = .ok (.iconst 4, 1) := by decide +kernel
theorem d_Ck_fits_142 : decode b_Ck_fits 142 = .ok (.iand, 1) := by decide +kernel
theorem d_Ck_fits_143 : decode b_Ck_fits 143 = .ok (.ifCond .eq 5, 3) := by decide +kernel
theorem d_Ck_fits_146 : decode b_Ck_fits 146 = .ok (.iconst 0, 1) := by decide +kernel
theorem d_Ck_fits_147 : decode b_Ck_fits 147 = .ok (.ireturn, 1) := by decide +kernel
theorem d_Ck_fits_148 : decode b_Ck_fits 148 = .ok (.iload_n 1, 1) := by decide +kernel
theorem d_Ck_fits_149 : decode b_Ck_fits 149 = .ok (.istore 6, 2) := by decide +kernel
theorem d_Ck_fits_151 : decode b_Ck_fits 151 = .ok (.iconst 0, 1) := by decide +kernel
theorem d_Ck_fits_152 : decode b_Ck_fits 152 = .ok (.istore 7, 2) := by decide +kernel
theorem d_Ck_fits_154 : decode b_Ck_fits 154 = .ok (.iload 7, 2) := by decide +kernel
theorem d_Ck_fits_156 : decode b_Ck_fits 156 = .ok (.bipush 51, 2) := by decide +kernel
theorem d_Ck_fits_158 : decode b_Ck_fits 158 = .ok (.if_icmp .ge 106, 3) := by decide +kernel
theorem d_Ck_fits_161 : decode b_Ck_fits 161 = .ok (.iload 6, 2) := by decide +kernel
theorem d_Ck_fits_163 : decode b_Ck_fits 163 = .ok (.bipush 9, 2) := by decide +kernel
theorem d_Ck_fits_165 : decode b_Ck_fits 165 = .ok (.if_icmp .eq 99, 3) := by decide +kernel
theorem d_Ck_fits_168 : decode b_Ck_fits 168 = .ok (.iload 6, 2) := by decide +kernel
theorem d_Ck_fits_170 : decode b_Ck_fits 170 = .ok (.iload 4, 2) := by decide +kernel
theorem d_Ck_fits_172 : decode b_Ck_fits 172 = .ok (.if_icmp .ge 12, 3) := by decide +kernel
theorem d_Ck_fits_175 : decode b_Ck_fits 175 = .ok (.aload_n 3, 1) := by decide +kernel
theorem d_Ck_fits_176 : decode b_Ck_fits 176 = .ok (.iload 6, 2) := by decide +kernel
theorem d_Ck_fits_178 : decode b_Ck_fits 178 = .ok (.iaload, 1) := by decide +kernel
theorem d_Ck_fits_179 : decode b_Ck_fits 179 = .ok (.iconst 1, 1) := by decide +kernel
theorem d_Ck_fits_180 : decode b_Ck_fits 180 = .ok (.isub, 1) := by decide +kernel
theorem d_Ck_fits_181 : decode b_Ck_fits 181 = .ok (.goto 4, 3) := by decide +kernel
theorem d_Ck_fits_184 : decode b_Ck_fits 184 = .ok (.iconst (-1), 1) := by decide +kernel
theorem d_Ck_fits_185 : decode b_Ck_fits 185 = .ok (.istore 8, 2) := by decide +kernel
theorem d_Ck_fits_187 : decode b_Ck_fits 187 = .ok (.iload 8, 2) := by decide +kernel
theorem d_Ck_fits_189 : decode b_Ck_fits 189 = .ok (.ifCond .ge 6, 3) := by decide +kernel
theorem d_Ck_fits_192 : decode b_Ck_fits 192 = .ok (.bipush 43, 2) := by decide +kernel
theorem d_Ck_fits_194 : decode b_Ck_fits 194 = .ok (.ireturn, 1) := by decide +kernel
theorem d_Ck_fits_195 : decode b_Ck_fits 195 = .ok (.iload 8, 2) := by decide +kernel
theorem d_Ck_fits_197 : decode b_Ck_fits 197 = .ok (.iload 5, 2) := by decide +kernel
theorem d_Ck_fits_199 : decode b_Ck_fits 199 = .ok (.if_icmp .ne 5, 3) := by decide +kernel
theorem d_Ck_fits_202 : decode b_Ck_fits 202 = .ok (.iconst 0, 1) := by decide +kernel
theorem d_Ck_fits_203 : decode b_Ck_fits 203 = .ok (.ireturn, 1) := by decide +kernel
theorem d_Ck_fits_204 : decode b_Ck_fits 204 = .ok (.aload_n 0, 1) := by decide +kernel
theorem d_Ck_fits_205 : decode b_Ck_fits 205 = .ok (.getfield 78, 3) := by decide +kernel
theorem d_Ck_fits_208 : decode b_Ck_fits 208 = .ok (.getfield 198, 3) := by decide +kernel
theorem d_Ck_fits_211 : decode b_Ck_fits 211 = .ok (.iload 8, 2) := by decide +kernel
theorem d_Ck_fits_213 : decode b_Ck_fits 213 = .ok (.bipush 19, 2) := by decide +kernel
theorem d_Ck_fits_215 : decode b_Ck_fits 215 = .ok (.imul, 1) := by decide +kernel
theorem d_Ck_fits_216 : decode b_Ck_fits 216 = .ok (.iconst 1, 1) := by decide +kernel
theorem d_Ck_fits_217 : decode b_Ck_fits 217 = .ok (.iadd, 1) := by decide +kernel
theorem d_Ck_fits_218 : decode b_Ck_fits 218 = .ok (.iaload, 1) := by decide +kernel
theorem d_Ck_fits_219 : decode b_Ck_fits 219 = .ok (.iconst 4, 1) := by decide +kernel
theorem d_Ck_fits_220 : decode b_Ck_fits 220 = .ok (.iand, 1) := by decide +kernel
theorem d_Ck_fits_221 : decode b_Ck_fits 221 = .ok (.ifCond .eq 7, 3) := by decide +kernel
theorem d_Ck_fits_224 : decode b_Ck_fits 224 = .ok (.iconst 1, 1) := by decide +kernel
theorem d_Ck_fits_225 : decode b_Ck_fits 225 = .ok (.goto 4, 3) := by decide +kernel
theorem d_Ck_fits_228 : decode b_Ck_fits 228 = .ok (.iconst 0, 1) := by decide +kernel
theorem d_Ck_fits_229 : decode b_Ck_fits 229 = .ok (.istore 9, 2) := by decide +kernel
theorem d_Ck_fits_231 : decode b_Ck_fits 231 = .ok (.iload 9, 2) := by decide +kernel
theorem d_Ck_fits_233 : decode b_Ck_fits 233 = .ok (.ifCond .eq 8, 3) := by decide +kernel
theorem d_Ck_fits_236 : decode b_Ck_fits 236 = .ok (.bipush 9, 2) := by decide +kernel
theorem d_Ck_fits_238 : decode b_Ck_fits 238 = .ok (.goto 18, 3) := by decide +kernel
theorem d_Ck_fits_241 : decode b_Ck_fits 241 = .ok (.aload_n 0, 1) := by decide +kernel
theorem d_Ck_fits_242 : decode b_Ck_fits 242 = .ok (.getfield 78, 3) := by decide +kernel
theorem d_Ck_fits_245 : decode b_Ck_fits 245 = .ok (.getfield 198, 3) := by decide +kernel
theorem d_Ck_fits_248 : decode b_Ck_fits 248 = .ok (.iload 8, 2) := by decide +kernel
theorem d_Ck_fits_250 : decode b_Ck_fits 250 = .ok (.bipush 19, 2) := by decide +kernel
theorem d_Ck_fits_252 : decode b_Ck_fits 252 = .ok (.imul, 1) := by decide +kernel
theorem d_Ck_fits_253 : decode b_Ck_fits 253 = .ok (.iconst 2, 1) := by decide +kernel
theorem d_Ck_fits_254 : decode b_Ck_fits 254 = .ok (.iadd, 1) := by decide +kernel
theorem d_Ck_fits_255 : decode b_Ck_fits 255 = .ok (.iaload, 1) := by decide +kernel
theorem d_Ck_fits_256 : decode b_Ck_fits 256 = .ok (.istore 6, 2) := by decide +kernel
theorem d_Ck_fits_258 : decode b_Ck_fits 258 = .ok (.iinc 7 1, 3) := by decide +kernel
theorem d_Ck_fits_261 : decode b_Ck_fits 261 = .ok (.goto (-107), 3) := by decide +kernel
theorem d_Ck_fits_264 : decode b_Ck_fits 264 = .ok (.bipush 37, 2) := by decide +kernel
theorem d_Ck_fits_266 : decode b_Ck_fits 266 = .ok (.ireturn, 1) := by decide +kernel
abbrev ru_Ck_fits : Room := { frames := 0, cells := 0, slots := 0, locals := 0 }
def wj_Ck_fits_10 (y : Ly) (Post : St → Int32 → Prop) (a0 : Nat) (s_j10 : St) : Prop := Post s_j10 0
def wj_Ck_fits_69 (y : Ly) (Post : St → Int32 → Prop) (a0 : Nat) (s_j69 : St) (z0j69 : Int32) : Prop := Post s_j69 z0j69
def wj_Ck_fits_67 (y : Ly) (Post : St → Int32 → Prop) (a0 : Nat) (s_j67 : St) : Prop := wj_Ck_fits_69 y Post a0 s_j67 37
def wj_Ck_fits_52 (y : Ly) (Post : St → Int32 → Prop) (a0 : Nat) (s_j52 : St) (x1j52 : Int32) (x2j52 : Int32) : Prop := ((¬ x1j52 = 1 → wj_Ck_fits_67 y Post a0 s_j52) ∧ (x1j52 = 1 → ((¬ x2j52 = 9 → wj_Ck_fits_67 y Post a0 s_j52) ∧ (x2j52 = 9 → wj_Ck_fits_69 y Post a0 s_j52 0))))
def wj_Ck_fits_264 (y : Ly) (Post : St → Int32 → Prop) (a0 : Nat) (s_j264 : St) : Prop := Post s_j264 37
def wj_Ck_fits_256 (y : Ly) (Post : St → Int32 → Prop) (K_154 : St → Nat → Nat → Int32 → Int32 → Int32 → Int32 → Prop) (a0 : Nat) (s_j256 : St) (x3j256 : Nat) (x3j256k : Nat) (x4j256 : Int32) (x5j256 : Int32) (x7j256 : Int32) (z0j256 : Int32) : Prop := (kd (cl x3j256) x3j256k = 2 ∧ tyx (cl x3j256) x3j256k = 0) ∧ K_154 s_j256 x3j256 x3j256k x4j256 x5j256 z0j256 (x7j256 + 1)
def wj_Ck_fits_229 (y : Ly) (Post : St → Int32 → Prop) (K_154 : St → Nat → Nat → Int32 → Int32 → Int32 → Int32 → Prop) (a0 : Nat) (s_j229 : St) (x3j229 : Nat) (x3j229k : Nat) (x4j229 : Int32) (x5j229 : Int32) (x7j229 : Int32) (x8j229 : Int32) (z0j229 : Int32) : Prop := (kd (cl x3j229) x3j229k = 2 ∧ tyx (cl x3j229) x3j229k = 0) ∧ ((z0j229 = 0 → ∃ b_15 : Nat, sO s_j229 a0 3 = some b_15 ∧ cl b_15 = 9 ∧ xA y s_j229 b_15 6 ((x8j229 * 19) + 2) (fun x_18 : Int32 => wj_Ck_fits_256 y Post K_154 a0 s_j229 x3j229 x3j229k x4j229 x5j229 x7j229 x_18)) ∧ (¬ (z0j229 = 0) → wj_Ck_fits_256 y Post K_154 a0 s_j229 x3j229 x3j229k x4j229 x5j229 x7j229 9))
def wj_Ck_fits_185 (y : Ly) (Post : St → Int32 → Prop) (K_154 : St → Nat → Nat → Int32 → Int32 → Int32 → Int32 → Prop) (a0 : Nat) (s_j185 : St) (x3j185 : Nat) (x3j185k : Nat) (x4j185 : Int32) (x5j185 : Int32) (x7j185 : Int32) (z0j185 : Int32) : Prop := (kd (cl x3j185) x3j185k = 2 ∧ tyx (cl x3j185) x3j185k = 0) ∧ ((0 ≤ z0j185 → ((¬ z0j185 = x5j185 → ∃ b_11 : Nat, sO s_j185 a0 3 = some b_11 ∧ cl b_11 = 9 ∧ xA y s_j185 b_11 6 ((z0j185 * 19) + 1) (fun x_14 : Int32 => (((x_14 &&& 4) = 0 → wj_Ck_fits_229 y Post K_154 a0 s_j185 x3j185 x3j185k x4j185 x5j185 x7j185 z0j185 0) ∧ (¬ ((x_14 &&& 4) = 0) → wj_Ck_fits_229 y Post K_154 a0 s_j185 x3j185 x3j185k x4j185 x5j185 x7j185 z0j185 1)))) ∧ (z0j185 = x5j185 → Post s_j185 0))) ∧ (¬ (0 ≤ z0j185) → Post s_j185 43))
def wb_Ck_fits_154 (y : Ly) (Post : St → Int32 → Prop) (K_154 : St → Nat → Nat → Int32 → Int32 → Int32 → Int32 → Prop) (a0 : Nat) (s_h154 : St) (x3h154 : Nat) (x3h154k : Nat) (x4h154 : Int32) (x5h154 : Int32) (x6h154 : Int32) (x7h154 : Int32) : Prop := (kd (cl x3h154) x3h154k = 2 ∧ tyx (cl x3h154) x3h154k = 0) ∧ ((51 ≤ x7h154 → wj_Ck_fits_264 y Post a0 s_h154) ∧ (¬ (51 ≤ x7h154) → ((x6h154 = 9 → wj_Ck_fits_264 y Post a0 s_h154) ∧ (¬ (x6h154 = 9) → ((x4h154 ≤ x6h154 → wj_Ck_fits_185 y Post K_154 a0 s_h154 x3h154 x3h154k x4h154 x5h154 x7h154 (-1)) ∧ (¬ (x4h154 ≤ x6h154) → xA y s_h154 x3h154 x3h154k x6h154 (fun x_19 : Int32 => wj_Ck_fits_185 y Post K_154 a0 s_h154 x3h154 x3h154k x4h154 x5h154 x7h154 (x_19 - 1))))))))
def wl_Ck_fits_154 (y : Ly) (Post : St → Int32 → Prop) (a0 : Nat) (s_h154 : St) (x3h154 : Nat) (x3h154k : Nat) (x4h154 : Int32) (x5h154 : Int32) (x6h154 : Int32) (x7h154 : Int32) : Prop := ∃ (I : St → Nat → Nat → Int32 → Int32 → Int32 → Int32 → Prop) (μ : St → Nat → Nat → Int32 → Int32 → Int32 → Int32 → Nat), I s_h154 x3h154 x3h154k x4h154 x5h154 x6h154 x7h154 ∧ ∀ (u : St) (t0 : Nat) (t1 : Nat) (t2 : Int32) (t3 : Int32) (t4 : Int32) (t5 : Int32), I u t0 t1 t2 t3 t4 t5 → wb_Ck_fits_154 y Post (fun z t0q t1q t2q t3q t4q t5q => I z t0q t1q t2q t3q t4q t5q ∧ μ z t0q t1q t2q t3q t4q t5q < μ u t0 t1 t2 t3 t4 t5) a0 u t0 t1 t2 t3 t4 t5
def wj_Ck_fits_116 (y : Ly) (Post : St → Int32 → Prop) (a0 : Nat) (s_j116 : St) (x1j116 : Int32) (x3j116 : Nat) (x3j116k : Nat) (x4j116 : Int32) (z0j116 : Int32) : Prop := (kd (cl x3j116) x3j116k = 2 ∧ tyx (cl x3j116) x3j116k = 0) ∧ ((0 ≤ z0j116 → ∃ b_7 : Nat, sO s_j116 a0 3 = some b_7 ∧ cl b_7 = 9 ∧ xA y s_j116 b_7 6 ((z0j116 * 19) + 1) (fun x_10 : Int32 => (((x_10 &&& 4) = 0 → wl_Ck_fits_154 y Post a0 s_j116 x3j116 x3j116k x4j116 z0j116 x1j116 0) ∧ (¬ ((x_10 &&& 4) = 0) → Post s_j116 0)))) ∧ (¬ (0 ≤ z0j116) → Post s_j116 43))
def wj_Ck_fits_34 (y : Ly) (Post : St → Int32 → Prop) (a0 : Nat) (s_j34 : St) (z0j34 : Int32) : Prop := Post s_j34 z0j34
def wj_Ck_fits_28 (y : Ly) (Post : St → Int32 → Prop) (a0 : Nat) (s_j28 : St) : Prop := wj_Ck_fits_34 y Post a0 s_j28 0
def wu_Ck_fits (y : Ly) (Post : St → Int32 → Prop) (σ : St) (a0 : Nat) (v1 : Int32) (v2 : Int32) : Prop := ((v1 = v2 → wj_Ck_fits_10 y Post a0 σ) ∧ (¬ (v1 = v2) → ((¬ v2 = 3 → ((¬ v1 = 2 → ((v1 = 1 → wj_Ck_fits_52 y Post a0 σ v1 v2) ∧ (¬ (v1 = 1) → ((v1 < 9 → wj_Ck_fits_52 y Post a0 σ v1 v2) ∧ (¬ (v1 < 9) → ((9 ≤ v2 → ((¬ v2 = 9 → ∃ b_1 : Nat, sO σ a0 3 = some b_1 ∧ cl b_1 = 9 ∧ ∃ b_4 : Nat, sO σ a0 3 = some b_4 ∧ cl b_4 = 9 ∧ (((sV σ (lk b_4 14) 1) ≤ v2 → wj_Ck_fits_116 y Post a0 σ v1 (lk b_1 14) 0 (sV σ (lk b_4 14) 1) (-1)) ∧ (¬ ((sV σ (lk b_4 14) 1) ≤ v2) → xA y σ (lk b_1 14) 0 v2 (fun x_20 : Int32 => wj_Ck_fits_116 y Post a0 σ v1 (lk b_1 14) 0 (sV σ (lk b_4 14) 1) (x_20 - 1))))) ∧ (v2 = 9 → Post σ 0))) ∧ (¬ (9 ≤ v2) → wj_Ck_fits_52 y Post a0 σ v1 v2))))))) ∧ (v1 = 2 → ((v2 = 1 → wj_Ck_fits_28 y Post a0 σ) ∧ (¬ (v2 = 1) → ((v2 < 9 → wj_Ck_fits_34 y Post a0 σ 37) ∧ (¬ (v2 < 9) → wj_Ck_fits_28 y Post a0 σ))))))) ∧ (v2 = 3 → wj_Ck_fits_10 y Post a0 σ))))
set_option maxHeartbeats 4000000 in
set_option maxRecDepth 100000 in
theorem cu_Ck_fits (l : Launch) (D : va_G) (g : Nat → ClassId) (ad : Nat → Nat) (y : Ly) (Post : St → Int32 → Prop) (σ : St) (a0 : Nat) (v1 : Int32) (v2 : Int32) (sz : Nat) (h_a0 : cl a0 = 0) (h : wu_Ck_fits y Post σ a0 v1 v2) : Met l y_Ck_fits (mw y_Ck_fits b_Ck_fits 10 (some .int)) ru_Ck_fits (PC g D [] [.ref (ad a0), .int v1, .int v2] sz (ws g ad y σ)) (va_Qi (fun (r : Int32) (u : St) => Post u r) (QW D (va_A (ws g ad y σ) sz) (fun u => ws g ad y u)) (va_A (ws g ad y σ) sz)) 0 0 (va_A (ws g ad y σ) sz) := by
  refine ofI (by decide +kernel) (Nat.le_of_ble_eq_true rfl) ?_
  intro p e s m args below meth c A Q ls H locs G hsz hP hD hS hl hret
  subst hsz
  have hl : lv_has ls 10 [(0, .ref (ad a0)), (1, .int v1), (2, .int v2)] := hl
  unfold wu_Ck_fits at h
  refine lv_iload_n G.1 G.2.1 d_Ck_fits_0 rfl (lv_at hl 1 rfl) ?_
  refine lv_iload_n G.1 G.2.1 d_Ck_fits_1 rfl (lv_at hl 2 rfl) ?_
  have J_10 : ∀ (s_j10 : St) (H : Heap) (locs : List Loc), wj_Ck_fits_10 y Post a0 s_j10 → va_P D CL (ws g ad y s_j10) H → va_D A (ws g ad y s_j10) → va_S A s.heap H locs → ∀ ls, lv_has ls 10 [] → W p l e ru_Ck_fits s m args below meth c H locs 0 0 Q (F0 m 10 ls []) := by
    intro s_j10 H locs h hP hD hS ls hl
    unfold wj_Ck_fits_10 at h
    refine lv_iconst (v := 0) G.1 G.2.1 d_Ck_fits_10 (by decide) ?_
    exact hret _ _ _ _ _ _ _ ls h hP hD hS (Nat.le_refl _) (Nat.le_refl _) d_Ck_fits_11
  refine lv_icmp_eq (tgt := 10) G.1 G.2.1 d_Ck_fits_2 (by decide) (fun c2 => ?_) (fun c2 => ?_)
  · skip
    have h := h.1 c2
    exact J_10 σ H locs h hP hD hS ls (lv_sub hl [] rfl)
  · skip
    have h := h.2 c2
    refine lv_iload_n G.1 G.2.1 d_Ck_fits_5 rfl (lv_at hl 2 rfl) ?_
    refine lv_iconst (v := 3) G.1 G.2.1 d_Ck_fits_6 (by decide) ?_
    refine lv_icmp_ne (tgt := 12) G.1 G.2.1 d_Ck_fits_7 (by decide) (fun c7 => ?_) (fun c7 => ?_)
    · skip
      have h := h.1 c7
      refine lv_iload_n G.1 G.2.1 d_Ck_fits_12 rfl (lv_at hl 1 rfl) ?_
      refine lv_iconst (v := 2) G.1 G.2.1 d_Ck_fits_13 (by decide) ?_
      refine lv_icmp_ne (tgt := 35) G.1 G.2.1 d_Ck_fits_14 (by decide) (fun c14 => ?_) (fun c14 => ?_)
      · skip
        have h := h.1 c14
        refine lv_iload_n G.1 G.2.1 d_Ck_fits_35 rfl (lv_at hl 1 rfl) ?_
        refine lv_iconst (v := 1) G.1 G.2.1 d_Ck_fits_36 (by decide) ?_
        have J_52 : ∀ (s_j52 : St) (x1j52 : Int32) (x2j52 : Int32) (H : Heap) (locs : List Loc), wj_Ck_fits_52 y Post a0 s_j52 x1j52 x2j52 → va_P D CL (ws g ad y s_j52) H → va_D A (ws g ad y s_j52) → va_S A s.heap H locs → ∀ ls, lv_has ls 10 [(1, .int x1j52), (2, .int x2j52)] → W p l e ru_Ck_fits s m args below meth c H locs 0 0 Q (F0 m 52 ls []) := by
          intro s_j52 x1j52 x2j52 H locs h hP hD hS ls hl
          unfold wj_Ck_fits_52 at h
          refine lv_iload_n G.1 G.2.1 d_Ck_fits_52 rfl (lv_at hl 0 rfl) ?_
          refine lv_iconst (v := 1) G.1 G.2.1 d_Ck_fits_53 (by decide) ?_
          have J_69 : ∀ (s_j69 : St) (z0j69 : Int32) (H : Heap) (locs : List Loc), wj_Ck_fits_69 y Post a0 s_j69 z0j69 → va_P D CL (ws g ad y s_j69) H → va_D A (ws g ad y s_j69) → va_S A s.heap H locs → ∀ ls, lv_has ls 10 [] → W p l e ru_Ck_fits s m args below meth c H locs 0 0 Q (F0 m 69 ls [.int z0j69]) := by
            intro s_j69 z0j69 H locs h hP hD hS ls hl
            unfold wj_Ck_fits_69 at h
            exact hret _ _ _ _ _ _ _ ls h hP hD hS (Nat.le_refl _) (Nat.le_refl _) d_Ck_fits_69
          have J_67 : ∀ (s_j67 : St) (H : Heap) (locs : List Loc), wj_Ck_fits_67 y Post a0 s_j67 → va_P D CL (ws g ad y s_j67) H → va_D A (ws g ad y s_j67) → va_S A s.heap H locs → ∀ ls, lv_has ls 10 [] → W p l e ru_Ck_fits s m args below meth c H locs 0 0 Q (F0 m 67 ls []) := by
            intro s_j67 H locs h hP hD hS ls hl
            unfold wj_Ck_fits_67 at h
            refine lv_bipush (v := 37) G.1 G.2.1 d_Ck_fits_67 (by decide) ?_
            exact J_69 s_j67 37 H locs h hP hD hS ls (lv_sub hl [] rfl)
          refine lv_icmp_ne (tgt := 67) G.1 G.2.1 d_Ck_fits_54 (by decide) (fun c54 => ?_) (fun c54 => ?_)
          · skip
            have h := h.1 c54
            exact J_67 s_j52 H locs h hP hD hS ls (lv_sub hl [] rfl)
          · skip
            have h := h.2 c54
            refine lv_iload_n G.1 G.2.1 d_Ck_fits_57 rfl (lv_at hl 1 rfl) ?_
            refine lv_bipush (v := 9) G.1 G.2.1 d_Ck_fits_58 (by decide) ?_
            refine lv_icmp_ne (tgt := 67) G.1 G.2.1 d_Ck_fits_60 (by decide) (fun c60 => ?_) (fun c60 => ?_)
            · skip
              have h := h.1 c60
              exact J_67 s_j52 H locs h hP hD hS ls (lv_sub hl [] rfl)
            · skip
              have h := h.2 c60
              refine lv_iconst (v := 0) G.1 G.2.1 d_Ck_fits_63 (by decide) ?_
              refine lv_goto (tgt := 69) G.1 G.2.1 d_Ck_fits_64 (by decide) ?_
              exact J_69 s_j52 0 H locs h hP hD hS ls (lv_sub hl [] rfl)
        refine W.eq (g2 := F0 m 37 ls [.int 1, .int v1]) rfl ?_
        refine lv_icmp_eq (tgt := 52) G.1 G.2.1 d_Ck_fits_37 (by decide) (fun c37 => ?_) (fun c37 => ?_)
        · skip
          have h := h.1 c37
          exact J_52 σ v1 v2 H locs h hP hD hS ls (lv_sub hl [1, 2] rfl)
        · skip
          have h := h.2 c37
          refine lv_iload_n G.1 G.2.1 d_Ck_fits_40 rfl (lv_at hl 1 rfl) ?_
          refine lv_bipush (v := 9) G.1 G.2.1 d_Ck_fits_41 (by decide) ?_
          refine lv_icmp_lt (tgt := 52) G.1 G.2.1 d_Ck_fits_43 (by decide) (fun c43 => ?_) (fun c43 => ?_)
          · skip
            have h := h.1 c43
            exact J_52 σ v1 v2 H locs h hP hD hS ls (lv_sub hl [1, 2] rfl)
          · skip
            have h := h.2 c43
            refine lv_iload_n G.1 G.2.1 d_Ck_fits_46 rfl (lv_at hl 2 rfl) ?_
            refine lv_bipush (v := 9) G.1 G.2.1 d_Ck_fits_47 (by decide) ?_
            refine lv_icmp_ge (tgt := 70) G.1 G.2.1 d_Ck_fits_49 (by decide) (fun c49 => ?_) (fun c49 => ?_)
            · skip
              have h := h.1 c49
              refine lv_iload_n G.1 G.2.1 d_Ck_fits_70 rfl (lv_at hl 2 rfl) ?_
              refine lv_bipush (v := 9) G.1 G.2.1 d_Ck_fits_71 (by decide) ?_
              refine lv_icmp_ne (tgt := 78) G.1 G.2.1 d_Ck_fits_73 (by decide) (fun c73 => ?_) (fun c73 => ?_)
              · skip
                have h := h.1 c73
                refine lv_aload_n G.1 G.2.1 d_Ck_fits_78 rfl (lv_at hl 0 rfl) ?_
                obtain ⟨b_1, e_2, c_3, h⟩ := h
                refine ugf (v := .ref (ad b_1)) G hP h_a0 iCk rfl 3 (by decide) rfl q654 rfl (by show va_rf ((sO σ a0 3).map ad) = _; rw [e_2]; rfl) d_Ck_fits_79 ?_
                refine W.eq (g2 := F0 m 82 ls [.ref (ad b_1)]) rfl ?_
                refine ugf (v := .ref (ad (lk b_1 14))) G hP c_3 iWd rfl 14 (by decide) rfl q861 rfl rfl d_Ck_fits_82 ?_
                refine ugf (v := .ref (yP y (lk b_1 14) 0)) G hP (lk_9_14 c_3) iIn rfl 0 (by decide) rfl q380 rfl rfl d_Ck_fits_85 ?_
                refine lv_astore_n (lv' := [(3, .ref (yP y (lk b_1 14) 0)), (0, .ref (ad a0)), (1, .int v1), (2, .int v2)]) G.1 G.2.1 d_Ck_fits_88 rfl hl (by decide) rfl (fun ls hl => ?_)
                refine lv_aload_n G.1 G.2.1 d_Ck_fits_89 rfl (lv_at hl 1 rfl) ?_
                obtain ⟨b_4, e_5, c_6, h⟩ := h
                refine ugf (v := .ref (ad b_4)) G hP h_a0 iCk rfl 3 (by decide) rfl q654 rfl (by show va_rf ((sO σ a0 3).map ad) = _; rw [e_5]; rfl) d_Ck_fits_90 ?_
                refine ugf (v := .ref (ad (lk b_4 14))) G hP c_6 iWd rfl 14 (by decide) rfl q861 rfl rfl d_Ck_fits_93 ?_
                refine ugf (v := .int (sV σ (lk b_4 14) 1)) G hP (lk_9_14 c_6) iIn rfl 1 (by decide) rfl q395 rfl rfl d_Ck_fits_96 ?_
                refine lv_istore (lv' := [(4, .int (sV σ (lk b_4 14) 1)), (3, .ref (yP y (lk b_1 14) 0)), (0, .ref (ad a0)), (1, .int v1), (2, .int v2)]) G.1 G.2.1 d_Ck_fits_99 hl (by decide) rfl (fun ls hl => ?_)
                refine lv_iload_n G.1 G.2.1 d_Ck_fits_101 rfl (lv_at hl 4 rfl) ?_
                refine lv_iload G.1 G.2.1 d_Ck_fits_102 (lv_at hl 0 rfl) ?_
                have J_116 : ∀ (s_j116 : St) (x1j116 : Int32) (x3j116 : Nat) (x3j116k : Nat) (x4j116 : Int32) (z0j116 : Int32) (H : Heap) (locs : List Loc), wj_Ck_fits_116 y Post a0 s_j116 x1j116 x3j116 x3j116k x4j116 z0j116 → va_P D CL (ws g ad y s_j116) H → va_D A (ws g ad y s_j116) → va_S A s.heap H locs → ∀ ls, lv_has ls 10 [(0, .ref (ad a0)), (1, .int x1j116), (3, .ref (yP y x3j116 x3j116k)), (4, .int x4j116)] → W p l e ru_Ck_fits s m args below meth c H locs 0 0 Q (F0 m 116 ls [.int z0j116]) := by
                  intro s_j116 x1j116 x3j116 x3j116k x4j116 z0j116 H locs h hP hD hS ls hl
                  unfold wj_Ck_fits_116 at h
                  obtain ⟨c_x3j116, h⟩ := h
                  refine lv_istore (lv' := [(5, .int z0j116), (0, .ref (ad a0)), (1, .int x1j116), (3, .ref (yP y x3j116 x3j116k)), (4, .int x4j116)]) G.1 G.2.1 d_Ck_fits_116 hl (by decide) rfl (fun ls hl => ?_)
                  refine lv_iload G.1 G.2.1 d_Ck_fits_118 (lv_at hl 0 rfl) ?_
                  refine lv_if_ge (tgt := 126) G.1 G.2.1 d_Ck_fits_120 (by decide) (fun c120 => ?_) (fun c120 => ?_)
                  · skip
                    have h := h.1 c120
                    refine lv_aload_n G.1 G.2.1 d_Ck_fits_126 rfl (lv_at hl 1 rfl) ?_
                    obtain ⟨b_7, e_8, c_9, h⟩ := h
                    refine ugf (v := .ref (ad b_7)) G hP h_a0 iCk rfl 3 (by decide) rfl q654 rfl (by show va_rf ((sO s_j116 a0 3).map ad) = _; rw [e_8]; rfl) d_Ck_fits_127 ?_
                    refine ugf (v := .ref (yP y b_7 6)) G hP c_9 iWd rfl 6 (by decide) rfl q832 rfl rfl d_Ck_fits_130 ?_
                    refine lv_iload G.1 G.2.1 d_Ck_fits_133 (lv_at hl 0 rfl) ?_
                    refine lv_bipush (v := 19) G.1 G.2.1 d_Ck_fits_135 (by decide) ?_
                    refine lv_imul G.1 G.2.1 d_Ck_fits_137 ?_
                    refine lv_iconst (v := 1) G.1 G.2.1 d_Ck_fits_138 (by decide) ?_
                    refine lv_iadd G.1 G.2.1 d_Ck_fits_139 ?_
                    refine W.eq (g2 := F0 m 140 ls [.int ((z0j116 * 19) + 1), .ref (yP y b_7 6)]) rfl ?_
                    refine uiald G hP (kdp c_9 rfl) (typ c_9 rfl) h d_Ck_fits_140 (fun x_10 h => ?_)
                    refine lv_iconst (v := 4) G.1 G.2.1 d_Ck_fits_141 (by decide) ?_
                    refine lv_iand G.1 G.2.1 d_Ck_fits_142 ?_
                    refine lv_if_eq (tgt := 148) G.1 G.2.1 d_Ck_fits_143 (by decide) (fun c143 => ?_) (fun c143 => ?_)
                    · skip
                      have h := h.1 c143
                      refine lv_iload_n G.1 G.2.1 d_Ck_fits_148 rfl (lv_at hl 2 rfl) ?_
                      refine lv_istore (lv' := [(6, .int x1j116), (5, .int z0j116), (0, .ref (ad a0)), (1, .int x1j116), (3, .ref (yP y x3j116 x3j116k)), (4, .int x4j116)]) G.1 G.2.1 d_Ck_fits_149 hl (by decide) rfl (fun ls hl => ?_)
                      refine lv_iconst (v := 0) G.1 G.2.1 d_Ck_fits_151 (by decide) ?_
                      refine lv_istore (lv' := [(7, .int 0), (6, .int x1j116), (5, .int z0j116), (0, .ref (ad a0)), (1, .int x1j116), (3, .ref (yP y x3j116 x3j116k)), (4, .int x4j116)]) G.1 G.2.1 d_Ck_fits_152 hl (by decide) rfl (fun ls hl => ?_)
                      unfold wl_Ck_fits_154 at h
                      obtain ⟨I_154, μ_154, hI_154, hB_154⟩ := h
                      have L_154 : ∀ (n_154 : Nat) (s_h154 : St) (x3h154 : Nat) (x3h154k : Nat) (x4h154 : Int32) (x5h154 : Int32) (x6h154 : Int32) (x7h154 : Int32), μ_154 s_h154 x3h154 x3h154k x4h154 x5h154 x6h154 x7h154 < n_154 → I_154 s_h154 x3h154 x3h154k x4h154 x5h154 x6h154 x7h154 → ∀ (H : Heap) (locs : List Loc), va_P D CL (ws g ad y s_h154) H → va_D A (ws g ad y s_h154) → va_S A s.heap H locs → ∀ ls, lv_has ls 10 [(0, .ref (ad a0)), (3, .ref (yP y x3h154 x3h154k)), (4, .int x4h154), (5, .int x5h154), (6, .int x6h154), (7, .int x7h154)] → W p l e ru_Ck_fits s m args below meth c H locs 0 0 Q (F0 m 154 ls []) := by
                        intro n_154
                        induction n_154 with
                        | zero => intro s_h154 x3h154 x3h154k x4h154 x5h154 x6h154 x7h154 hμ; exact absurd hμ (Nat.not_lt_zero _)
                        | succ n_154 ih_154 =>
                          intro s_h154 x3h154 x3h154k x4h154 x5h154 x6h154 x7h154 hμ_154 hJ H locs hP hD hS ls hl
                          obtain ⟨K_154, hK_154, h⟩ : ∃ K : St → Nat → Nat → Int32 → Int32 → Int32 → Int32 → Prop, (∀ z (t0 : Nat) (t1 : Nat) (t2 : Int32) (t3 : Int32) (t4 : Int32) (t5 : Int32), K z t0 t1 t2 t3 t4 t5 → I_154 z t0 t1 t2 t3 t4 t5 ∧ μ_154 z t0 t1 t2 t3 t4 t5 < μ_154 s_h154 x3h154 x3h154k x4h154 x5h154 x6h154 x7h154) ∧ wb_Ck_fits_154 y Post K a0 s_h154 x3h154 x3h154k x4h154 x5h154 x6h154 x7h154 := ⟨_, fun _ _ _ _ _ _ _ h => h, hB_154 s_h154 x3h154 x3h154k x4h154 x5h154 x6h154 x7h154 hJ⟩
                          unfold wb_Ck_fits_154 at h
                          obtain ⟨c_x3h154, h⟩ := h
                          refine lv_iload G.1 G.2.1 d_Ck_fits_154 (lv_at hl 5 rfl) ?_
                          refine lv_bipush (v := 51) G.1 G.2.1 d_Ck_fits_156 (by decide) ?_
                          have J_264 : ∀ (s_j264 : St) (H : Heap) (locs : List Loc), wj_Ck_fits_264 y Post a0 s_j264 → va_P D CL (ws g ad y s_j264) H → va_D A (ws g ad y s_j264) → va_S A s.heap H locs → ∀ ls, lv_has ls 10 [] → W p l e ru_Ck_fits s m args below meth c H locs 0 0 Q (F0 m 264 ls []) := by
                            intro s_j264 H locs h hP hD hS ls hl
                            unfold wj_Ck_fits_264 at h
                            refine lv_bipush (v := 37) G.1 G.2.1 d_Ck_fits_264 (by decide) ?_
                            exact hret _ _ _ _ _ _ _ ls h hP hD hS (Nat.le_refl _) (Nat.le_refl _) d_Ck_fits_266
                          refine lv_icmp_ge (tgt := 264) G.1 G.2.1 d_Ck_fits_158 (by decide) (fun c158 => ?_) (fun c158 => ?_)
                          · skip
                            have h := h.1 c158
                            exact J_264 s_h154 H locs h hP hD hS ls (lv_sub hl [] rfl)
                          · skip
                            have h := h.2 c158
                            refine lv_iload G.1 G.2.1 d_Ck_fits_161 (lv_at hl 4 rfl) ?_
                            refine lv_bipush (v := 9) G.1 G.2.1 d_Ck_fits_163 (by decide) ?_
                            refine lv_icmp_eq (tgt := 264) G.1 G.2.1 d_Ck_fits_165 (by decide) (fun c165 => ?_) (fun c165 => ?_)
                            · skip
                              have h := h.1 c165
                              exact J_264 s_h154 H locs h hP hD hS ls (lv_sub hl [] rfl)
                            · skip
                              have h := h.2 c165
                              refine lv_iload G.1 G.2.1 d_Ck_fits_168 (lv_at hl 4 rfl) ?_
                              refine lv_iload G.1 G.2.1 d_Ck_fits_170 (lv_at hl 2 rfl) ?_
                              have J_185 : ∀ (s_j185 : St) (x3j185 : Nat) (x3j185k : Nat) (x4j185 : Int32) (x5j185 : Int32) (x7j185 : Int32) (z0j185 : Int32) (H : Heap) (locs : List Loc), wj_Ck_fits_185 y Post K_154 a0 s_j185 x3j185 x3j185k x4j185 x5j185 x7j185 z0j185 → va_P D CL (ws g ad y s_j185) H → va_D A (ws g ad y s_j185) → va_S A s.heap H locs → ∀ ls, lv_has ls 10 [(0, .ref (ad a0)), (3, .ref (yP y x3j185 x3j185k)), (4, .int x4j185), (5, .int x5j185), (7, .int x7j185)] → W p l e ru_Ck_fits s m args below meth c H locs 0 0 Q (F0 m 185 ls [.int z0j185]) := by
                                intro s_j185 x3j185 x3j185k x4j185 x5j185 x7j185 z0j185 H locs h hP hD hS ls hl
                                unfold wj_Ck_fits_185 at h
                                obtain ⟨c_x3j185, h⟩ := h
                                refine lv_istore (lv' := [(8, .int z0j185), (0, .ref (ad a0)), (3, .ref (yP y x3j185 x3j185k)), (4, .int x4j185), (5, .int x5j185), (7, .int x7j185)]) G.1 G.2.1 d_Ck_fits_185 hl (by decide) rfl (fun ls hl => ?_)
                                refine lv_iload G.1 G.2.1 d_Ck_fits_187 (lv_at hl 0 rfl) ?_
                                refine lv_if_ge (tgt := 195) G.1 G.2.1 d_Ck_fits_189 (by decide) (fun c189 => ?_) (fun c189 => ?_)
                                · skip
                                  have h := h.1 c189
                                  refine lv_iload G.1 G.2.1 d_Ck_fits_195 (lv_at hl 0 rfl) ?_
                                  refine lv_iload G.1 G.2.1 d_Ck_fits_197 (lv_at hl 4 rfl) ?_
                                  refine lv_icmp_ne (tgt := 204) G.1 G.2.1 d_Ck_fits_199 (by decide) (fun c199 => ?_) (fun c199 => ?_)
                                  · skip
                                    have h := h.1 c199
                                    refine lv_aload_n G.1 G.2.1 d_Ck_fits_204 rfl (lv_at hl 1 rfl) ?_
                                    obtain ⟨b_11, e_12, c_13, h⟩ := h
                                    refine ugf (v := .ref (ad b_11)) G hP h_a0 iCk rfl 3 (by decide) rfl q654 rfl (by show va_rf ((sO s_j185 a0 3).map ad) = _; rw [e_12]; rfl) d_Ck_fits_205 ?_
                                    refine ugf (v := .ref (yP y b_11 6)) G hP c_13 iWd rfl 6 (by decide) rfl q832 rfl rfl d_Ck_fits_208 ?_
                                    refine lv_iload G.1 G.2.1 d_Ck_fits_211 (lv_at hl 0 rfl) ?_
                                    refine lv_bipush (v := 19) G.1 G.2.1 d_Ck_fits_213 (by decide) ?_
                                    refine W.eq (g2 := F0 m 215 ls [.int 19, .int z0j185, .ref (yP y b_11 6)]) rfl ?_
                                    refine lv_imul G.1 G.2.1 d_Ck_fits_215 ?_
                                    refine lv_iconst (v := 1) G.1 G.2.1 d_Ck_fits_216 (by decide) ?_
                                    refine lv_iadd G.1 G.2.1 d_Ck_fits_217 ?_
                                    refine uiald G hP (kdp c_13 rfl) (typ c_13 rfl) h d_Ck_fits_218 (fun x_14 h => ?_)
                                    refine lv_iconst (v := 4) G.1 G.2.1 d_Ck_fits_219 (by decide) ?_
                                    refine lv_iand G.1 G.2.1 d_Ck_fits_220 ?_
                                    have J_229 : ∀ (s_j229 : St) (x3j229 : Nat) (x3j229k : Nat) (x4j229 : Int32) (x5j229 : Int32) (x7j229 : Int32) (x8j229 : Int32) (z0j229 : Int32) (H : Heap) (locs : List Loc), wj_Ck_fits_229 y Post K_154 a0 s_j229 x3j229 x3j229k x4j229 x5j229 x7j229 x8j229 z0j229 → va_P D CL (ws g ad y s_j229) H → va_D A (ws g ad y s_j229) → va_S A s.heap H locs → ∀ ls, lv_has ls 10 [(0, .ref (ad a0)), (3, .ref (yP y x3j229 x3j229k)), (4, .int x4j229), (5, .int x5j229), (7, .int x7j229), (8, .int x8j229)] → W p l e ru_Ck_fits s m args below meth c H locs 0 0 Q (F0 m 229 ls [.int z0j229]) := by
                                      intro s_j229 x3j229 x3j229k x4j229 x5j229 x7j229 x8j229 z0j229 H locs h hP hD hS ls hl
                                      unfold wj_Ck_fits_229 at h
                                      obtain ⟨c_x3j229, h⟩ := h
                                      refine lv_istore (lv' := [(9, .int z0j229), (0, .ref (ad a0)), (3, .ref (yP y x3j229 x3j229k)), (4, .int x4j229), (5, .int x5j229), (7, .int x7j229), (8, .int x8j229)]) G.1 G.2.1 d_Ck_fits_229 hl (by decide) rfl (fun ls hl => ?_)
                                      refine lv_iload G.1 G.2.1 d_Ck_fits_231 (lv_at hl 0 rfl) ?_
                                      have J_256 : ∀ (s_j256 : St) (x3j256 : Nat) (x3j256k : Nat) (x4j256 : Int32) (x5j256 : Int32) (x7j256 : Int32) (z0j256 : Int32) (H : Heap) (locs : List Loc), wj_Ck_fits_256 y Post K_154 a0 s_j256 x3j256 x3j256k x4j256 x5j256 x7j256 z0j256 → va_P D CL (ws g ad y s_j256) H → va_D A (ws g ad y s_j256) → va_S A s.heap H locs → ∀ ls, lv_has ls 10 [(0, .ref (ad a0)), (3, .ref (yP y x3j256 x3j256k)), (4, .int x4j256), (5, .int x5j256), (7, .int x7j256)] → W p l e ru_Ck_fits s m args below meth c H locs 0 0 Q (F0 m 256 ls [.int z0j256]) := by
                                        intro s_j256 x3j256 x3j256k x4j256 x5j256 x7j256 z0j256 H locs h hP hD hS ls hl
                                        unfold wj_Ck_fits_256 at h
                                        obtain ⟨c_x3j256, h⟩ := h
                                        refine lv_istore (lv' := [(6, .int z0j256), (0, .ref (ad a0)), (3, .ref (yP y x3j256 x3j256k)), (4, .int x4j256), (5, .int x5j256), (7, .int x7j256)]) G.1 G.2.1 d_Ck_fits_256 hl (by decide) rfl (fun ls hl => ?_)
                                        refine lv_iinc (v := x7j256 + 1) (lv' := [(7, .int (x7j256 + 1)), (6, .int z0j256), (0, .ref (ad a0)), (3, .ref (yP y x3j256 x3j256k)), (4, .int x4j256), (5, .int x5j256)]) G.1 G.2.1 d_Ck_fits_258 hl (k := 5) rfl rfl (by decide) rfl (fun ls hl => ?_)
                                        refine lv_goto (tgt := 154) G.1 G.2.1 d_Ck_fits_261 (by decide) ?_
                                        have h := hK_154 s_j256 x3j256 x3j256k x4j256 x5j256 z0j256 (x7j256 + 1) h
                                        exact ih_154 s_j256 x3j256 x3j256k x4j256 x5j256 z0j256 (x7j256 + 1) (Nat.lt_of_lt_of_le h.2 (Nat.le_of_lt_succ hμ_154)) h.1 H locs hP hD hS ls (lv_sub hl [2, 3, 4, 5, 1, 0] rfl)
                                      refine lv_if_eq (tgt := 241) G.1 G.2.1 d_Ck_fits_233 (by decide) (fun c233 => ?_) (fun c233 => ?_)
                                      · skip
                                        have h := h.1 c233
                                        refine lv_aload_n G.1 G.2.1 d_Ck_fits_241 rfl (lv_at hl 1 rfl) ?_
                                        obtain ⟨b_15, e_16, c_17, h⟩ := h
                                        refine ugf (v := .ref (ad b_15)) G hP h_a0 iCk rfl 3 (by decide) rfl q654 rfl (by show va_rf ((sO s_j229 a0 3).map ad) = _; rw [e_16]; rfl) d_Ck_fits_242 ?_
                                        refine ugf (v := .ref (yP y b_15 6)) G hP c_17 iWd rfl 6 (by decide) rfl q832 rfl rfl d_Ck_fits_245 ?_
                                        refine lv_iload G.1 G.2.1 d_Ck_fits_248 (lv_at hl 6 rfl) ?_
                                        refine lv_bipush (v := 19) G.1 G.2.1 d_Ck_fits_250 (by decide) ?_
                                        refine lv_imul G.1 G.2.1 d_Ck_fits_252 ?_
                                        refine lv_iconst (v := 2) G.1 G.2.1 d_Ck_fits_253 (by decide) ?_
                                        refine lv_iadd G.1 G.2.1 d_Ck_fits_254 ?_
                                        refine W.eq (g2 := F0 m 255 ls [.int ((x8j229 * 19) + 2), .ref (yP y b_15 6)]) rfl ?_
                                        refine uiald G hP (kdp c_17 rfl) (typ c_17 rfl) h d_Ck_fits_255 (fun x_18 h => ?_)
                                        exact J_256 s_j229 x3j229 x3j229k x4j229 x5j229 x7j229 x_18 H locs h hP hD hS ls (lv_sub hl [1, 2, 3, 4, 5] rfl)
                                      · skip
                                        have h := h.2 c233
                                        refine lv_bipush (v := 9) G.1 G.2.1 d_Ck_fits_236 (by decide) ?_
                                        refine lv_goto (tgt := 256) G.1 G.2.1 d_Ck_fits_238 (by decide) ?_
                                        exact J_256 s_j229 x3j229 x3j229k x4j229 x5j229 x7j229 9 H locs h hP hD hS ls (lv_sub hl [1, 2, 3, 4, 5] rfl)
                                    refine lv_if_eq (tgt := 228) G.1 G.2.1 d_Ck_fits_221 (by decide) (fun c221 => ?_) (fun c221 => ?_)
                                    · skip
                                      have h := h.1 c221
                                      refine lv_iconst (v := 0) G.1 G.2.1 d_Ck_fits_228 (by decide) ?_
                                      exact J_229 s_j185 x3j185 x3j185k x4j185 x5j185 x7j185 z0j185 0 H locs h hP hD hS ls (lv_sub hl [1, 2, 3, 4, 5, 0] rfl)
                                    · skip
                                      have h := h.2 c221
                                      refine lv_iconst (v := 1) G.1 G.2.1 d_Ck_fits_224 (by decide) ?_
                                      refine lv_goto (tgt := 229) G.1 G.2.1 d_Ck_fits_225 (by decide) ?_
                                      exact J_229 s_j185 x3j185 x3j185k x4j185 x5j185 x7j185 z0j185 1 H locs h hP hD hS ls (lv_sub hl [1, 2, 3, 4, 5, 0] rfl)
                                  · skip
                                    have h := h.2 c199
                                    refine lv_iconst (v := 0) G.1 G.2.1 d_Ck_fits_202 (by decide) ?_
                                    exact hret _ _ _ _ _ _ _ ls h hP hD hS (Nat.le_refl _) (Nat.le_refl _) d_Ck_fits_203
                                · skip
                                  have h := h.2 c189
                                  refine lv_bipush (v := 43) G.1 G.2.1 d_Ck_fits_192 (by decide) ?_
                                  exact hret _ _ _ _ _ _ _ ls h hP hD hS (Nat.le_refl _) (Nat.le_refl _) d_Ck_fits_194
                              refine lv_icmp_ge (tgt := 184) G.1 G.2.1 d_Ck_fits_172 (by decide) (fun c172 => ?_) (fun c172 => ?_)
                              · skip
                                have h := h.1 c172
                                refine lv_iconst (v := (-1)) G.1 G.2.1 d_Ck_fits_184 (by decide) ?_
                                exact J_185 s_h154 x3h154 x3h154k x4h154 x5h154 x7h154 (-1) H locs h hP hD hS ls (lv_sub hl [0, 1, 2, 3, 5] rfl)
                              · skip
                                have h := h.2 c172
                                refine lv_aload_n G.1 G.2.1 d_Ck_fits_175 rfl (lv_at hl 1 rfl) ?_
                                refine lv_iload G.1 G.2.1 d_Ck_fits_176 (lv_at hl 4 rfl) ?_
                                refine W.eq (g2 := F0 m 178 ls [.int x6h154, .ref (yP y x3h154 x3h154k)]) rfl ?_
                                refine uiald G hP c_x3h154.1 c_x3h154.2 h d_Ck_fits_178 (fun x_19 h => ?_)
                                refine lv_iconst (v := 1) G.1 G.2.1 d_Ck_fits_179 (by decide) ?_
                                refine lv_isub G.1 G.2.1 d_Ck_fits_180 ?_
                                refine lv_goto (tgt := 185) G.1 G.2.1 d_Ck_fits_181 (by decide) ?_
                                exact J_185 s_h154 x3h154 x3h154k x4h154 x5h154 x7h154 (x_19 - 1) H locs h hP hD hS ls (lv_sub hl [0, 1, 2, 3, 5] rfl)
                      exact L_154 _ s_j116 x3j116 x3j116k x4j116 z0j116 x1j116 0 (Nat.lt_succ_self _) hI_154 H locs hP hD hS ls (lv_sub hl [3, 5, 6, 2, 1, 0] rfl)
                    · skip
                      have h := h.2 c143
                      refine lv_iconst (v := 0) G.1 G.2.1 d_Ck_fits_146 (by decide) ?_
                      exact hret _ _ _ _ _ _ _ ls h hP hD hS (Nat.le_refl _) (Nat.le_refl _) d_Ck_fits_147
                  · skip
                    have h := h.2 c120
                    refine lv_bipush (v := 43) G.1 G.2.1 d_Ck_fits_123 (by decide) ?_
                    exact hret _ _ _ _ _ _ _ ls h hP hD hS (Nat.le_refl _) (Nat.le_refl _) d_Ck_fits_125
                refine lv_icmp_ge (tgt := 115) G.1 G.2.1 d_Ck_fits_104 (by decide) (fun c104 => ?_) (fun c104 => ?_)
                · skip
                  have h := h.1 c104
                  refine lv_iconst (v := (-1)) G.1 G.2.1 d_Ck_fits_115 (by decide) ?_
                  exact J_116 σ v1 (lk b_1 14) 0 (sV σ (lk b_4 14) 1) (-1) H locs h hP hD hS ls (lv_sub hl [2, 3, 1, 0] rfl)
                · skip
                  have h := h.2 c104
                  refine lv_aload_n G.1 G.2.1 d_Ck_fits_107 rfl (lv_at hl 1 rfl) ?_
                  refine W.eq (g2 := F0 m 108 ls [.ref (yP y (lk b_1 14) 0)]) rfl ?_
                  refine lv_iload_n G.1 G.2.1 d_Ck_fits_108 rfl (lv_at hl 4 rfl) ?_
                  refine uiald G hP (kdp (lk_9_14 c_3) rfl) (typ (lk_9_14 c_3) rfl) h d_Ck_fits_109 (fun x_20 h => ?_)
                  refine lv_iconst (v := 1) G.1 G.2.1 d_Ck_fits_110 (by decide) ?_
                  refine lv_isub G.1 G.2.1 d_Ck_fits_111 ?_
                  refine lv_goto (tgt := 116) G.1 G.2.1 d_Ck_fits_112 (by decide) ?_
                  exact J_116 σ v1 (lk b_1 14) 0 (sV σ (lk b_4 14) 1) (x_20 - 1) H locs h hP hD hS ls (lv_sub hl [2, 3, 1, 0] rfl)
              · skip
                have h := h.2 c73
                refine lv_iconst (v := 0) G.1 G.2.1 d_Ck_fits_76 (by decide) ?_
                exact hret _ _ _ _ _ _ _ ls h hP hD hS (Nat.le_refl _) (Nat.le_refl _) d_Ck_fits_77
            · skip
              have h := h.2 c49
              exact J_52 σ v1 v2 H locs h hP hD hS ls (lv_sub hl [1, 2] rfl)
      · skip
        have h := h.2 c14
        refine lv_iload_n G.1 G.2.1 d_Ck_fits_17 rfl (lv_at hl 2 rfl) ?_
        refine lv_iconst (v := 1) G.1 G.2.1 d_Ck_fits_18 (by decide) ?_
        have J_34 : ∀ (s_j34 : St) (z0j34 : Int32) (H : Heap) (locs : List Loc), wj_Ck_fits_34 y Post a0 s_j34 z0j34 → va_P D CL (ws g ad y s_j34) H → va_D A (ws g ad y s_j34) → va_S A s.heap H locs → ∀ ls, lv_has ls 10 [] → W p l e ru_Ck_fits s m args below meth c H locs 0 0 Q (F0 m 34 ls [.int z0j34]) := by
          intro s_j34 z0j34 H locs h hP hD hS ls hl
          unfold wj_Ck_fits_34 at h
          exact hret _ _ _ _ _ _ _ ls h hP hD hS (Nat.le_refl _) (Nat.le_refl _) d_Ck_fits_34
        have J_28 : ∀ (s_j28 : St) (H : Heap) (locs : List Loc), wj_Ck_fits_28 y Post a0 s_j28 → va_P D CL (ws g ad y s_j28) H → va_D A (ws g ad y s_j28) → va_S A s.heap H locs → ∀ ls, lv_has ls 10 [] → W p l e ru_Ck_fits s m args below meth c H locs 0 0 Q (F0 m 28 ls []) := by
          intro s_j28 H locs h hP hD hS ls hl
          unfold wj_Ck_fits_28 at h
          refine lv_iconst (v := 0) G.1 G.2.1 d_Ck_fits_28 (by decide) ?_
          refine lv_goto (tgt := 34) G.1 G.2.1 d_Ck_fits_29 (by decide) ?_
          exact J_34 s_j28 0 H locs h hP hD hS ls (lv_sub hl [] rfl)
        refine W.eq (g2 := F0 m 19 ls [.int 1, .int v2]) rfl ?_
        refine lv_icmp_eq (tgt := 28) G.1 G.2.1 d_Ck_fits_19 (by decide) (fun c19 => ?_) (fun c19 => ?_)
        · skip
          have h := h.1 c19
          exact J_28 σ H locs h hP hD hS ls (lv_sub hl [] rfl)
        · skip
          have h := h.2 c19
          refine lv_iload_n G.1 G.2.1 d_Ck_fits_22 rfl (lv_at hl 2 rfl) ?_
          refine lv_bipush (v := 9) G.1 G.2.1 d_Ck_fits_23 (by decide) ?_
          refine lv_icmp_lt (tgt := 32) G.1 G.2.1 d_Ck_fits_25 (by decide) (fun c25 => ?_) (fun c25 => ?_)
          · skip
            have h := h.1 c25
            refine lv_bipush (v := 37) G.1 G.2.1 d_Ck_fits_32 (by decide) ?_
            exact J_34 σ 37 H locs h hP hD hS ls (lv_sub hl [] rfl)
          · skip
            have h := h.2 c25
            exact J_28 σ H locs h hP hD hS ls (lv_sub hl [] rfl)
    · skip
      have h := h.2 c7
      exact J_10 σ H locs h hP hD hS ls (lv_sub hl [] rfl)
theorem q1616 : Cond.methodLink "ClassWorks$Checker" 179 y_Ck_frameWrong ∈ lw_ok := lw_okmem (List.mem_of_getElem? (i := 1616) (by decide +kernel)) rfl
theorem q1619 : Cond.code y_Ck_frameWrong b_Ck_frameWrong 7 (some (.boolean)) ∈ lw_ok := lw_okmem (List.mem_of_getElem? (i := 1619) (by decide +kernel)) rfl
theorem q341 : Cond.initialized "ClassWorks$Checker" ∈ lw_ok := lw_okmem (List.mem_of_getElem? (i := 341) (by decide +kernel)) rfl
theorem q1618 : Cond.instanceMethod y_Ck_frameWrong ∈ lw_ok := lw_okmem (List.mem_of_getElem? (i := 1618) (by decide +kernel)) rfl
theorem q55 : Cond.selects y_Ck_frameWrong.cls y_Ck_frameWrong y_Ck_frameWrong ∈ lw_ok := lw_okmem (List.mem_of_getElem? (i := 55) (by decide +kernel)) rfl
theorem w9_Ck_frameWrong : CWv y_Ck_frameWrong b_Ck_frameWrong 7 (some (.boolean)) 1 ∧ Cond.instanceMethod y_Ck_frameWrong ∈ lw_ok ∧ Cond.selects y_Ck_frameWrong.cls y_Ck_frameWrong y_Ck_frameWrong ∈ lw_ok := ⟨⟨q1619, q341, by decide +kernel, by decide +kernel, by decide +kernel⟩, q1618, q55⟩
theorem q1611 : Cond.constant "ClassWorks$Checker" 175 (-2147483648) ∈ lw_ok := lw_okmem (List.mem_of_getElem? (i := 1611) (by decide +kernel)) rfl
theorem q1620 : Cond.methodLink "ClassWorks$Checker" 189 y_Ck_fits ∈ lw_ok := lw_okmem (List.mem_of_getElem? (i := 1620) (by decide +kernel)) rfl
theorem q1623 : Cond.code y_Ck_fits b_Ck_fits 10 (some .int) ∈ lw_ok := lw_okmem (List.mem_of_getElem? (i := 1623) (by decide +kernel)) rfl
theorem q1622 : Cond.instanceMethod y_Ck_fits ∈ lw_ok := lw_okmem (List.mem_of_getElem? (i := 1622) (by decide +kernel)) rfl
theorem q56 : Cond.selects y_Ck_fits.cls y_Ck_fits y_Ck_fits ∈ lw_ok := lw_okmem (List.mem_of_getElem? (i := 56) (by decide +kernel)) rfl
theorem w9_Ck_fits : CWv y_Ck_fits b_Ck_fits 10 (some .int) 2 ∧ Cond.instanceMethod y_Ck_fits ∈ lw_ok ∧ Cond.selects y_Ck_fits.cls y_Ck_fits y_Ck_fits ∈ lw_ok := ⟨⟨q1623, q341, by decide +kernel, by decide +kernel, by decide +kernel⟩, q1622, q56⟩
def y_Ck_stateFits : MethodName := ⟨"ClassWorks$Checker", "stateFits", "(II)I"⟩
abbrev b_Ck_stateFits : ByteArray := prog_2_method_11_code
theorem d_Ck_stateFits_0 : decode b_Ck_stateFits 0 = .ok (.aload_n 0, 1) := by decide +kernel
theorem d_Ck_stateFits_1 : decode b_Ck_stateFits 1 = .ok (.getfield 78, 3) := by decide +kernel
theorem d_Ck_stateFits_4 : decode b_Ck_stateFits 4 = .ok (.getfield 113, 3) := by decide +kernel
theorem d_Ck_stateFits_7 : decode b_Ck_stateFits 7 = .ok (.getfield 116, 3) := by decide +kernel
theorem d_Ck_stateFits_10 : decode b_Ck_stateFits 10 = .ok (.aload_n 0, 1) := by decide +kernel
theorem d_Ck_stateFits_11 : decode b_Ck_stateFits 11 = .ok (.getfield 21, 3) := by decide +kernel
theorem d_Ck_stateFits_14 : decode b_Ck_stateFits 14 = .ok (.iload_n 1, 1) := by decide +kernel
theorem d_Ck_stateFits_15 : decode b_Ck_stateFits 15 = .ok (.iconst 5, 1) := by decide +kernel
theorem d_Ck_stateFits_16 : decode b_Ck_stateFits 16 = .ok (.imul, 1) := by decide +kernel
theorem d_Ck_stateFits_17 : decode b_Ck_stateFits 17 = .ok (.iadd, 1) := by decide +kernel
theorem d_Ck_stateFits_18 : decode b_Ck_stateFits 18 = .ok (.iconst 4, 1) := by decide +kernel
theorem d_Ck_stateFits_19 : decode b_Ck_stateFits 19 = .ok (.iadd, 1) := by decide +kernel
theorem d_Ck_stateFits_20 : decode b_Ck_stateFits 20 = .ok (.iaload, 1) := by decide +kernel
theorem d_Ck_stateFits_21 : decode b_Ck_stateFits 21 = .ok (.istore_n 3, 1) := by decide +kernel
theorem d_Ck_stateFits_22 : decode b_Ck_stateFits 22 = .ok (.iload_n 3, 1) := by decide +kernel
theorem d_Ck_stateFits_23 : decode b_Ck_stateFits 23 = .ok (.ifCond .ge 6, 3) := by decide +kernel
theorem d_Ck_stateFits_26 : decode b_Ck_stateFits 26 = .ok (.bipush 36, 2) := by decide +kernel
theorem d_Ck_stateFits_28 : decode b_Ck_stateFits 28 = .ok (.ireturn, 1) := by decide +kernel
theorem d_Ck_stateFits_29 : decode b_Ck_stateFits 29 = .ok (.aload_n 0, 1) := by decide +kernel
theorem d_Ck_stateFits_30 : decode b_Ck_stateFits 30 = .ok (.iload_n 3, 1) := by decide +kernel
theorem d_Ck_stateFits_31 : decode b_Ck_stateFits 31 = .ok (.invokevirtual 179, 3) := by decide +kernel
theorem d_Ck_stateFits_34 : decode b_Ck_stateFits 34 = .ok (.ifCond .eq 6, 3) := by decide +kernel
theorem d_Ck_stateFits_37 : decode b_Ck_stateFits 37 = .ok (.bipush 38, 2) := by decide +kernel
theorem d_Ck_stateFits_39 : decode b_Ck_stateFits 39 = .ok (.ireturn, 1) := by decide +kernel
theorem d_Ck_stateFits_40 : decode b_Ck_stateFits 40 = .ok (.aload_n 0, 1) := by decide +kernel
theorem d_Ck_stateFits_41 : decode b_Ck_stateFits 41 = .ok (.getfield 78, 3) := by decide +kernel
theorem d_Ck_stateFits_44 : decode b_Ck_stateFits 44 = .ok (.getfield 183, 3) := by decide +kernel
theorem d_Ck_stateFits_47 : decode b_Ck_stateFits 47 = .ok (.getfield 116, 3) := by decide +kernel
theorem d_Ck_stateFits_50 : decode b_Ck_stateFits 50 = .ok (.astore 4, 2) := by decide +kernel
theorem d_Ck_stateFits_52 : decode b_Ck_stateFits 52 = .ok (.aload 4, 2) := by decide +kernel
theorem d_Ck_stateFits_54 : decode b_Ck_stateFits 54 = .ok (.iload_n 3, 1) := by decide +kernel
theorem d_Ck_stateFits_55 : decode b_Ck_stateFits 55 = .ok (.iaload, 1) := by decide +kernel
theorem d_Ck_stateFits_56 : decode b_Ck_stateFits 56 = .ok (.istore 5, 2) := by decide +kernel
theorem d_Ck_stateFits_58 : decode b_Ck_stateFits 58 = .ok (.iload_n 3, 1) := by decide +kernel
theorem d_Ck_stateFits_59 : decode b_Ck_stateFits 59 = .ok (.iconst 2, 1) := by decide +kernel
theorem d_Ck_stateFits_60 : decode b_Ck_stateFits 60 = .ok (.iadd, 1) := by decide +kernel
theorem d_Ck_stateFits_61 : decode b_Ck_stateFits 61 = .ok (.iload 5, 2) := by decide +kernel
theorem d_Ck_stateFits_63 : decode b_Ck_stateFits 63 = .ok (.iadd, 1) := by decide +kernel
theorem d_Ck_stateFits_64 : decode b_Ck_stateFits 64 = .ok (.istore 6, 2) := by decide +kernel
theorem d_Ck_stateFits_66 : decode b_Ck_stateFits 66 = .ok (.aload 4, 2) := by decide +kernel
theorem d_Ck_stateFits_68 : decode b_Ck_stateFits 68 = .ok (.iload 6, 2) := by decide +kernel
theorem d_Ck_stateFits_70 : decode b_Ck_stateFits 70 = .ok (.iconst 1, 1) := by decide +kernel
theorem d_Ck_stateFits_71 : decode b_Ck_stateFits 71 = .ok (.isub, 1) := by decide +kernel
theorem d_Ck_stateFits_72 : decode b_Ck_stateFits 72 = .ok (.iaload, 1) := by decide +kernel
theorem d_Ck_stateFits_73 : decode b_Ck_stateFits 73 = .ok (.istore 7, 2) := by decide +kernel
theorem d_Ck_stateFits_75 : decode b_Ck_stateFits 75 = .ok (.iload_n 2, 1) := by decide +kernel
theorem d_Ck_stateFits_76 : decode b_Ck_stateFits 76 = .ok (.ldc 175, 2) := by decide +kernel
theorem d_Ck_stateFits_78 : decode b_Ck_stateFits 78 = .ok (.if_icmp .eq 7, 3) := by decide +kernel
theorem d_Ck_stateFits_81 : decode b_Ck_stateFits 81 = .ok (.iconst 1, 1) := by decide +kernel
theorem d_Ck_stateFits_82 : decode b_Ck_stateFits 82 = .ok (.goto 4, 3) := by decide +kernel
theorem d_Ck_stateFits_85 : decode b_Ck_stateFits 85 = .ok (.iconst 0, 1) := by decide +kernel
theorem d_Ck_stateFits_86 : decode b_Ck_stateFits 86 = .ok (.istore 8, 2) := by decide +kernel
theorem d_Ck_stateFits_88 : decode b_Ck_stateFits 88 = .ok (.iload 8, 2) := by decide +kernel
theorem d_Ck_stateFits_90 : decode b_Ck_stateFits 90 = .ok (.ifCond .eq 12, 3) := by decide +kernel
theorem d_Ck_stateFits_93 : decode b_Ck_stateFits 93 = .ok (.iload 7, 2) := by decide +kernel
theorem d_Ck_stateFits_95 : decode b_Ck_stateFits 95 = .ok (.iconst 1, 1) := by decide +kernel
theorem d_Ck_stateFits_96 : decode b_Ck_stateFits 96 = .ok (.if_icmp .eq 6, 3) := by decide +kernel
theorem d_Ck_stateFits_99 : decode b_Ck_stateFits 99 = .ok (.bipush 37, 2) := by decide +kernel
theorem d_Ck_stateFits_101 : decode b_Ck_stateFits 101 = .ok (.ireturn, 1) := by decide +kernel
theorem d_Ck_stateFits_102 : decode b_Ck_stateFits 102 = .ok (.iconst 0, 1) := by decide +kernel
theorem d_Ck_stateFits_103 : decode b_Ck_stateFits 103 = .ok (.istore 9, 2) := by decide +kernel
theorem d_Ck_stateFits_105 : decode b_Ck_stateFits 105 = .ok (.iload 9, 2) := by decide +kernel
theorem d_Ck_stateFits_107 : decode b_Ck_stateFits 107 = .ok (.aload_n 0, 1) := by decide +kernel
theorem d_Ck_stateFits_108 : decode b_Ck_stateFits 108 = .ok (.getfield 27, 3) := by decide +kernel
theorem d_Ck_stateFits_111 : decode b_Ck_stateFits 111 = .ok (.if_icmp .ge 50, 3) := by decide +kernel
theorem d_Ck_stateFits_114 : decode b_Ck_stateFits 114 = .ok (.aload_n 0, 1) := by decide +kernel
theorem d_Ck_stateFits_115 : decode b_Ck_stateFits 115 = .ok (.aload_n 0, 1) := by decide +kernel
theorem d_Ck_stateFits_116 : decode b_Ck_stateFits 116 = .ok (.getfield 52, 3) := by decide +kernel
theorem d_Ck_stateFits_119 : decode b_Ck_stateFits 119 = .ok (.iload 9, 2) := by decide +kernel
theorem d_Ck_stateFits_121 : decode b_Ck_stateFits 121 = .ok (.iaload, 1) := by decide +kernel
theorem d_Ck_stateFits_122 : decode b_Ck_stateFits 122 = .ok (.iload 9, 2) := by decide +kernel
theorem d_Ck_stateFits_124 : decode b_Ck_stateFits 124 = .ok (.iload 5, 2) := by decide +kernel
theorem d_Ck_stateFits_126 : decode b_Ck_stateFits 126 = .ok (.if_icmp .ge 15, 3) := by decide +kernel
theorem d_Ck_stateFits_129 : decode b_Ck_stateFits 129 = .ok (.aload 4, 2) := by decide +kernel
theorem d_Ck_stateFits_131 : decode b_Ck_stateFits 131 = .ok (.iload_n 3, 1) := by decide +kernel
theorem d_Ck_stateFits_132 : decode b_Ck_stateFits 132 = .ok (.iconst 1, 1) := by decide +kernel
theorem d_Ck_stateFits_133 : decode b_Ck_stateFits 133 = .ok (.iadd, 1) := by decide +kernel
theorem d_Ck_stateFits_134 : decode b_Ck_stateFits 134 = .ok (.iload 9, 2) := by decide +kernel
theorem d_Ck_stateFits_136 : decode b_Ck_stateFits 136 = .ok (.iadd, 1) := by decide +kernel
theorem d_Ck_stateFits_137 : decode b_Ck_stateFits 137 = .ok (.iaload, 1) := by decide +kernel
theorem d_Ck_stateFits_138 : decode b_Ck_stateFits 138 = .ok (.goto 4, 3) := by decide +kernel
theorem d_Ck_stateFits_141 : decode b_Ck_stateFits 141 = .ok (.iconst 3, 1) := by decide +kernel
theorem d_Ck_stateFits_142 : decode b_Ck_stateFits 142 = .ok (.invokevirtual 189, 3) := by decide +kernel
theorem d_Ck_stateFits_145 : decode b_Ck_stateFits 145 = .ok (.istore 10, 2) := by decide +kernel
theorem d_Ck_stateFits_147 : decode b_Ck_stateFits 147 = .ok (.iload 10, 2) := by decide +kernel
theorem d_Ck_stateFits_149 : decode b_Ck_stateFits 149 = .ok (.ifCond .eq 6, 3) := by decide +kernel
theorem d_Ck_stateFits_152 : decode b_Ck_stateFits 152 = .ok (.iload 10, 2) := by decide +kernel
theorem d_Ck_stateFits_154 : decode b_Ck_stateFits 154 = .ok (.ireturn, 1) := by decide +kernel
theorem d_Ck_stateFits_155 : decode b_Ck_stateFits 155 = .ok (.iinc 9 1, 3) := by decide +kernel
theorem d_Ck_stateFits_158 : decode b_Ck_stateFits 158 = .ok (.goto (-53), 3) := by decide +kernel
theorem d_Ck_stateFits_161 : decode b_Ck_stateFits 161 = .ok (.iload 8, 2) := by decide +kernel
theorem d_Ck_stateFits_163 : decode b_Ck_stateFits 163 = .ok (.ifCond .ne 15, 3) := by decide +kernel
theorem d_Ck_stateFits_166 : decode b_Ck_stateFits 166 = .ok (.iload 7, 2) := by decide +kernel
theorem d_Ck_stateFits_168 : decode b_Ck_stateFits 168 = .ok (.aload_n 0, 1) := by decide +kernel
theorem d_Ck_stateFits_169 : decode b_Ck_stateFits 169 = .ok (.getfield 56, 3) := by decide +kernel
theorem d_Ck_stateFits_172 : decode b_Ck_stateFits 172 = .ok (.if_icmp .eq 6, 3) := by decide +kernel
theorem d_Ck_stateFits_175 : decode b_Ck_stateFits 175 = .ok (.bipush 37, 2) := by decide +kernel
theorem d_Ck_stateFits_177 : decode b_Ck_stateFits 177 = .ok (.ireturn, 1) := by decide +kernel
theorem d_Ck_stateFits_178 : decode b_Ck_stateFits 178 = .ok (.iconst 0, 1) := by decide +kernel
theorem d_Ck_stateFits_179 : decode b_Ck_stateFits 179 = .ok (.istore 9, 2) := by decide +kernel
theorem d_Ck_stateFits_181 : decode b_Ck_stateFits 181 = .ok (.iload 9, 2) := by decide +kernel
theorem d_Ck_stateFits_183 : decode b_Ck_stateFits 183 = .ok (.iload 7, 2) := by decide +kernel
theorem d_Ck_stateFits_185 : decode b_Ck_stateFits 185 = .ok (.if_icmp .ge 50, 3) := by decide +kernel
theorem d_Ck_stateFits_188 : decode b_Ck_stateFits 188 = .ok (.aload_n 0, 1) := by decide +kernel
theorem d_Ck_stateFits_189 : decode b_Ck_stateFits 189 = .ok (.iload 8, 2) := by decide +kernel
theorem d_Ck_stateFits_191 : decode b_Ck_stateFits 191 = .ok (.ifCond .eq 7, 3) := by decide +kernel
theorem d_Ck_stateFits_194 : decode b_Ck_stateFits 194 = .ok (.iload_n 2, 1) := by decide +kernel
theorem d_Ck_stateFits_195 : decode b_Ck_stateFits 195 = .ok (.goto 13, 3) := by decide +kernel
theorem d_Ck_stateFits_198 : decode b_Ck_stateFits 198 = .ok (.aload_n 0, 1) := by decide +kernel
theorem d_Ck_stateFits_199 : decode b_Ck_stateFits 199 = .ok (.getfield 52, 3) := by decide +kernel
theorem d_Ck_stateFits_202 : decode b_Ck_stateFits 202 = .ok (.bipush 20, 2) := by decide +kernel
theorem d_Ck_stateFits_204 : decode b_Ck_stateFits 204 = .ok (.iload 9, 2) := by decide +kernel
theorem d_Ck_stateFits_206 : decode b_Ck_stateFits 206 = .ok (.iadd, 1) := by decide +kernel
theorem d_Ck_stateFits_207 : decode b_Ck_stateFits 207 = .ok (.iaload, 1) := by decide +kernel
theorem d_Ck_stateFits_208 : decode b_Ck_stateFits 208 = .ok (.aload 4, 2) := by decide +kernel
theorem d_Ck_stateFits_210 : decode b_Ck_stateFits 210 = .ok (.iload 6, 2) := by decide +kernel
theorem d_Ck_stateFits_212 : decode b_Ck_stateFits 212 = .ok (.iload 9, 2) := by decide +kernel
theorem d_Ck_stateFits_214 : decode b_Ck_stateFits 214 = .ok (.iadd, 1) := by decide +kernel
theorem d_Ck_stateFits_215 : decode b_Ck_stateFits 215 = .ok (.iaload, 1) := by decide +kernel
theorem d_Ck_stateFits_216 : decode b_Ck_stateFits 216 = .ok (.invokevirtual 189, 3) := by decide +kernel
theorem d_Ck_stateFits_219 : decode b_Ck_stateFits 219 = .ok (.istore 10, 2) := by decide +kernel
theorem d_Ck_stateFits_221 : decode b_Ck_stateFits 221 = .ok (.iload 10, 2) := by decide +kernel
theorem d_Ck_stateFits_223 : decode b_Ck_stateFits 223 = .ok (.ifCond .eq 6, 3) := by decide +kernel
theorem d_Ck_stateFits_226 : decode b_Ck_stateFits 226 = .ok (.iload 10, 2) := by decide +kernel
theorem d_Ck_stateFits_228 : decode b_Ck_stateFits 228 = .ok (.ireturn, 1) := by decide +kernel
theorem d_Ck_stateFits_229 : decode b_Ck_stateFits 229 = .ok (.iinc 9 1, 3) := by decide +kernel
theorem d_Ck_stateFits_232 : decode b_Ck_stateFits 232 = .ok (.goto (-51), 3) := by decide +kernel
theorem d_Ck_stateFits_235 : decode b_Ck_stateFits 235 = .ok (.iconst 0, 1) := by decide +kernel
theorem d_Ck_stateFits_236 : decode b_Ck_stateFits 236 = .ok (.ireturn, 1) := by decide +kernel
abbrev ru_Ck_stateFits : Room := { frames := 1, cells := 0, slots := 0, locals := 29 }
def wj_Ck_stateFits_208 (y : Ly) (Post : St → Int32 → Prop) (K_181 : St → Int32 → Nat → Nat → Int32 → Int32 → Int32 → Int32 → Prop) (a0 : Nat) (s_j208 : St) (x2j208 : Int32) (x4j208 : Nat) (x4j208k : Nat) (x6j208 : Int32) (x7j208 : Int32) (x8j208 : Int32) (x9j208 : Int32) (z1j208 : Int32) : Prop := (kd (cl x4j208) x4j208k = 2 ∧ tyx (cl x4j208) x4j208k = 0) ∧ xA y s_j208 x4j208 x4j208k (x6j208 + x9j208) (fun x_12 : Int32 => wu_Ck_fits y (fun (s_14 : St) (r_13 : Int32) => ((r_13 = 0 → K_181 s_14 x2j208 x4j208 x4j208k x6j208 x7j208 x8j208 (x9j208 + 1)) ∧ (¬ (r_13 = 0) → Post s_14 r_13))) s_j208 a0 z1j208 x_12)
def wb_Ck_stateFits_181 (y : Ly) (Post : St → Int32 → Prop) (K_181 : St → Int32 → Nat → Nat → Int32 → Int32 → Int32 → Int32 → Prop) (a0 : Nat) (s_h181 : St) (x2h181 : Int32) (x4h181 : Nat) (x4h181k : Nat) (x6h181 : Int32) (x7h181 : Int32) (x8h181 : Int32) (x9h181 : Int32) : Prop := (kd (cl x4h181) x4h181k = 2 ∧ tyx (cl x4h181) x4h181k = 0) ∧ ((x7h181 ≤ x9h181 → Post s_h181 0) ∧ (¬ (x7h181 ≤ x9h181) → ((x8h181 = 0 → xA y s_h181 a0 15 (20 + x9h181) (fun x_15 : Int32 => wj_Ck_stateFits_208 y Post K_181 a0 s_h181 x2h181 x4h181 x4h181k x6h181 x7h181 x8h181 x9h181 x_15)) ∧ (¬ (x8h181 = 0) → wj_Ck_stateFits_208 y Post K_181 a0 s_h181 x2h181 x4h181 x4h181k x6h181 x7h181 x8h181 x9h181 x2h181))))
def wl_Ck_stateFits_181 (y : Ly) (Post : St → Int32 → Prop) (a0 : Nat) (s_h181 : St) (x2h181 : Int32) (x4h181 : Nat) (x4h181k : Nat) (x6h181 : Int32) (x7h181 : Int32) (x8h181 : Int32) (x9h181 : Int32) : Prop := ∃ (I : St → Int32 → Nat → Nat → Int32 → Int32 → Int32 → Int32 → Prop) (μ : St → Int32 → Nat → Nat → Int32 → Int32 → Int32 → Int32 → Nat), I s_h181 x2h181 x4h181 x4h181k x6h181 x7h181 x8h181 x9h181 ∧ ∀ (u : St) (t0 : Int32) (t1 : Nat) (t2 : Nat) (t3 : Int32) (t4 : Int32) (t5 : Int32) (t6 : Int32), I u t0 t1 t2 t3 t4 t5 t6 → wb_Ck_stateFits_181 y Post (fun z t0q t1q t2q t3q t4q t5q t6q => I z t0q t1q t2q t3q t4q t5q t6q ∧ μ z t0q t1q t2q t3q t4q t5q t6q < μ u t0 t1 t2 t3 t4 t5 t6) a0 u t0 t1 t2 t3 t4 t5 t6
def wj_Ck_stateFits_178 (y : Ly) (Post : St → Int32 → Prop) (a0 : Nat) (s_j178 : St) (x2j178 : Int32) (x4j178 : Nat) (x4j178k : Nat) (x6j178 : Int32) (x7j178 : Int32) (x8j178 : Int32) : Prop := (kd (cl x4j178) x4j178k = 2 ∧ tyx (cl x4j178) x4j178k = 0) ∧ wl_Ck_stateFits_181 y Post a0 s_j178 x2j178 x4j178 x4j178k x6j178 x7j178 x8j178 0
def wj_Ck_stateFits_142 (y : Ly) (Post : St → Int32 → Prop) (K_105 : St → Int32 → Int32 → Nat → Nat → Int32 → Int32 → Int32 → Int32 → Int32 → Prop) (a0 : Nat) (s_j142 : St) (x2j142 : Int32) (x3j142 : Int32) (x4j142 : Nat) (x4j142k : Nat) (x5j142 : Int32) (x6j142 : Int32) (x7j142 : Int32) (x8j142 : Int32) (x9j142 : Int32) (z1j142 : Int32) (z2j142 : Int32) : Prop := (kd (cl x4j142) x4j142k = 2 ∧ tyx (cl x4j142) x4j142k = 0) ∧ wu_Ck_fits y (fun (s_18 : St) (r_17 : Int32) => ((r_17 = 0 → K_105 s_18 x2j142 x3j142 x4j142 x4j142k x5j142 x6j142 x7j142 x8j142 (x9j142 + 1)) ∧ (¬ (r_17 = 0) → Post s_18 r_17))) s_j142 a0 z1j142 z2j142
def wb_Ck_stateFits_105 (y : Ly) (Post : St → Int32 → Prop) (K_105 : St → Int32 → Int32 → Nat → Nat → Int32 → Int32 → Int32 → Int32 → Int32 → Prop) (a0 : Nat) (s_h105 : St) (x2h105 : Int32) (x3h105 : Int32) (x4h105 : Nat) (x4h105k : Nat) (x5h105 : Int32) (x6h105 : Int32) (x7h105 : Int32) (x8h105 : Int32) (x9h105 : Int32) : Prop := (kd (cl x4h105) x4h105k = 2 ∧ tyx (cl x4h105) x4h105k = 0) ∧ (((sV s_h105 a0 7) ≤ x9h105 → ((¬ x8h105 = 0 → wj_Ck_stateFits_178 y Post a0 s_h105 x2h105 x4h105 x4h105k x6h105 x7h105 x8h105) ∧ (x8h105 = 0 → ((x7h105 = (sV s_h105 a0 16) → wj_Ck_stateFits_178 y Post a0 s_h105 x2h105 x4h105 x4h105k x6h105 x7h105 x8h105) ∧ (¬ (x7h105 = (sV s_h105 a0 16)) → Post s_h105 37))))) ∧ (¬ ((sV s_h105 a0 7) ≤ x9h105) → xA y s_h105 a0 15 x9h105 (fun x_16 : Int32 => ((x5h105 ≤ x9h105 → wj_Ck_stateFits_142 y Post K_105 a0 s_h105 x2h105 x3h105 x4h105 x4h105k x5h105 x6h105 x7h105 x8h105 x9h105 x_16 3) ∧ (¬ (x5h105 ≤ x9h105) → xA y s_h105 x4h105 x4h105k ((x3h105 + 1) + x9h105) (fun x_19 : Int32 => wj_Ck_stateFits_142 y Post K_105 a0 s_h105 x2h105 x3h105 x4h105 x4h105k x5h105 x6h105 x7h105 x8h105 x9h105 x_16 x_19))))))
def wl_Ck_stateFits_105 (y : Ly) (Post : St → Int32 → Prop) (a0 : Nat) (s_h105 : St) (x2h105 : Int32) (x3h105 : Int32) (x4h105 : Nat) (x4h105k : Nat) (x5h105 : Int32) (x6h105 : Int32) (x7h105 : Int32) (x8h105 : Int32) (x9h105 : Int32) : Prop := ∃ (I : St → Int32 → Int32 → Nat → Nat → Int32 → Int32 → Int32 → Int32 → Int32 → Prop) (μ : St → Int32 → Int32 → Nat → Nat → Int32 → Int32 → Int32 → Int32 → Int32 → Nat), I s_h105 x2h105 x3h105 x4h105 x4h105k x5h105 x6h105 x7h105 x8h105 x9h105 ∧ ∀ (u : St) (t0 : Int32) (t1 : Int32) (t2 : Nat) (t3 : Nat) (t4 : Int32) (t5 : Int32) (t6 : Int32) (t7 : Int32) (t8 : Int32), I u t0 t1 t2 t3 t4 t5 t6 t7 t8 → wb_Ck_stateFits_105 y Post (fun z t0q t1q t2q t3q t4q t5q t6q t7q t8q => I z t0q t1q t2q t3q t4q t5q t6q t7q t8q ∧ μ z t0q t1q t2q t3q t4q t5q t6q t7q t8q < μ u t0 t1 t2 t3 t4 t5 t6 t7 t8) a0 u t0 t1 t2 t3 t4 t5 t6 t7 t8
def wj_Ck_stateFits_102 (y : Ly) (Post : St → Int32 → Prop) (a0 : Nat) (s_j102 : St) (x2j102 : Int32) (x3j102 : Int32) (x4j102 : Nat) (x4j102k : Nat) (x5j102 : Int32) (x6j102 : Int32) (x7j102 : Int32) (x8j102 : Int32) : Prop := (kd (cl x4j102) x4j102k = 2 ∧ tyx (cl x4j102) x4j102k = 0) ∧ wl_Ck_stateFits_105 y Post a0 s_j102 x2j102 x3j102 x4j102 x4j102k x5j102 x6j102 x7j102 x8j102 0
def wj_Ck_stateFits_86 (y : Ly) (Post : St → Int32 → Prop) (a0 : Nat) (s_j86 : St) (x2j86 : Int32) (x3j86 : Int32) (x4j86 : Nat) (x4j86k : Nat) (x5j86 : Int32) (x6j86 : Int32) (x7j86 : Int32) (z0j86 : Int32) : Prop := (kd (cl x4j86) x4j86k = 2 ∧ tyx (cl x4j86) x4j86k = 0) ∧ ((z0j86 = 0 → wj_Ck_stateFits_102 y Post a0 s_j86 x2j86 x3j86 x4j86 x4j86k x5j86 x6j86 x7j86 z0j86) ∧ (¬ (z0j86 = 0) → ((x7j86 = 1 → wj_Ck_stateFits_102 y Post a0 s_j86 x2j86 x3j86 x4j86 x4j86k x5j86 x6j86 x7j86 z0j86) ∧ (¬ (x7j86 = 1) → Post s_j86 37))))
def wu_Ck_stateFits (y : Ly) (Post : St → Int32 → Prop) (σ : St) (a0 : Nat) (v1 : Int32) (v2 : Int32) : Prop := ∃ b_1 : Nat, sO σ a0 3 = some b_1 ∧ cl b_1 = 9 ∧ xA y σ (lk b_1 10) 0 (((sV σ a0 5) + (v1 * 5)) + 4) (fun x_4 : Int32 => ((0 ≤ x_4 → wu_Ck_frameWrong y (fun (s_6 : St) (r_5 : Int32) => ((r_5 = 0 → ∃ b_7 : Nat, sO s_6 a0 3 = some b_7 ∧ cl b_7 = 9 ∧ xA y s_6 (lk b_7 12) 0 x_4 (fun x_10 : Int32 => xA y s_6 (lk b_7 12) 0 (((x_4 + 2) + x_10) - 1) (fun x_11 : Int32 => ((v2 = (-2147483648) → wj_Ck_stateFits_86 y Post a0 s_6 v2 x_4 (lk b_7 12) 0 x_10 ((x_4 + 2) + x_10) x_11 0) ∧ (¬ (v2 = (-2147483648)) → wj_Ck_stateFits_86 y Post a0 s_6 v2 x_4 (lk b_7 12) 0 x_10 ((x_4 + 2) + x_10) x_11 1))))) ∧ (¬ (r_5 = 0) → Post s_6 38))) σ a0 x_4) ∧ (¬ (0 ≤ x_4) → Post σ 36)))
set_option maxHeartbeats 4000000 in
set_option maxRecDepth 100000 in
theorem cu_Ck_stateFits (l : Launch) (D : va_G) (g : Nat → ClassId) (ad : Nat → Nat) (y : Ly) (Post : St → Int32 → Prop) (σ : St) (a0 : Nat) (v1 : Int32) (v2 : Int32) (sz : Nat) (h_a0 : cl a0 = 0) (h : wu_Ck_stateFits y Post σ a0 v1 v2) : Met l y_Ck_stateFits (mw y_Ck_stateFits b_Ck_stateFits 11 (some .int)) ru_Ck_stateFits (PC g D [] [.ref (ad a0), .int v1, .int v2] sz (ws g ad y σ)) (va_Qi (fun (r : Int32) (u : St) => Post u r) (QW D (va_A (ws g ad y σ) sz) (fun u => ws g ad y u)) (va_A (ws g ad y σ) sz)) 0 0 (va_A (ws g ad y σ) sz) := by
  refine ofI (by decide +kernel) (Nat.le_of_ble_eq_true rfl) ?_
  intro p e s m args below meth c A Q ls H locs G hsz hP hD hS hl hret
  subst hsz
  have hl : lv_has ls 11 [(0, .ref (ad a0)), (1, .int v1), (2, .int v2)] := hl
  unfold wu_Ck_stateFits at h
  refine lv_aload_n G.1 G.2.1 d_Ck_stateFits_0 rfl (lv_at hl 0 rfl) ?_
  obtain ⟨b_1, e_2, c_3, h⟩ := h
  refine ugf (v := .ref (ad b_1)) G hP h_a0 iCk rfl 3 (by decide) rfl q654 rfl (by show va_rf ((sO σ a0 3).map ad) = _; rw [e_2]; rfl) d_Ck_stateFits_1 ?_
  refine ugf (v := .ref (ad (lk b_1 10))) G hP c_3 iWd rfl 10 (by decide) rfl q843 rfl rfl d_Ck_stateFits_4 ?_
  refine ugf (v := .ref (yP y (lk b_1 10) 0)) G hP (lk_9_10 c_3) iIn rfl 0 (by decide) rfl q380 rfl rfl d_Ck_stateFits_7 ?_
  refine lv_aload_n G.1 G.2.1 d_Ck_stateFits_10 rfl (lv_at hl 0 rfl) ?_
  refine ugf (v := .int (sV σ a0 5)) G hP h_a0 iCk rfl 5 (by decide) rfl q656 rfl rfl d_Ck_stateFits_11 ?_
  refine lv_iload_n G.1 G.2.1 d_Ck_stateFits_14 rfl (lv_at hl 1 rfl) ?_
  refine lv_iconst (v := 5) G.1 G.2.1 d_Ck_stateFits_15 (by decide) ?_
  refine lv_imul G.1 G.2.1 d_Ck_stateFits_16 ?_
  refine lv_iadd G.1 G.2.1 d_Ck_stateFits_17 ?_
  refine lv_iconst (v := 4) G.1 G.2.1 d_Ck_stateFits_18 (by decide) ?_
  refine W.eq (g2 := F0 m 19 ls [.int 4, .int ((sV σ a0 5) + (v1 * 5)), .ref (yP y (lk b_1 10) 0)]) rfl ?_
  refine lv_iadd G.1 G.2.1 d_Ck_stateFits_19 ?_
  refine uiald G hP (kdp (lk_9_10 c_3) rfl) (typ (lk_9_10 c_3) rfl) h d_Ck_stateFits_20 (fun x_4 h => ?_)
  refine lv_istore_n (lv' := [(3, .int x_4), (0, .ref (ad a0)), (1, .int v1), (2, .int v2)]) G.1 G.2.1 d_Ck_stateFits_21 rfl hl (by decide) rfl (fun ls hl => ?_)
  refine lv_iload_n G.1 G.2.1 d_Ck_stateFits_22 rfl (lv_at hl 0 rfl) ?_
  refine lv_if_ge (tgt := 29) G.1 G.2.1 d_Ck_stateFits_23 (by decide) (fun c23 => ?_) (fun c23 => ?_)
  · skip
    have h := h.1 c23
    refine lv_aload_n G.1 G.2.1 d_Ck_stateFits_29 rfl (lv_at hl 1 rfl) ?_
    refine lv_iload_n G.1 G.2.1 d_Ck_stateFits_30 rfl (lv_at hl 0 rfl) ?_
    refine ucVi (As := [.int x_4]) (rest := []) G hP hD hS (cu_Ck_frameWrong l D g ad y _ σ a0 x_4 H.size h_a0 h) w9_Ck_frameWrong q1616 ⟨Nat.le_of_ble_eq_true rfl, Nat.le_of_ble_eq_true rfl⟩ rfl rfl h_a0 (q := (RCk, TCk, 22)) rfl rfl hl.1 rfl (Nat.le_of_ble_eq_true rfl) rfl ⟨Nat.le_refl _, Nat.le_refl _⟩ d_Ck_stateFits_31 (fun r_5 s_6 H locs h hP hD hS => ?_)
    refine lv_if_eq (tgt := 40) G.1 G.2.1 d_Ck_stateFits_34 (by decide) (fun c34 => ?_) (fun c34 => ?_)
    · skip
      have h := h.1 c34
      refine lv_aload_n G.1 G.2.1 d_Ck_stateFits_40 rfl (lv_at hl 1 rfl) ?_
      obtain ⟨b_7, e_8, c_9, h⟩ := h
      refine ugf (v := .ref (ad b_7)) G hP h_a0 iCk rfl 3 (by decide) rfl q654 rfl (by show va_rf ((sO s_6 a0 3).map ad) = _; rw [e_8]; rfl) d_Ck_stateFits_41 ?_
      refine ugf (v := .ref (ad (lk b_7 12))) G hP c_9 iWd rfl 12 (by decide) rfl q854 rfl rfl d_Ck_stateFits_44 ?_
      refine W.eq (g2 := F0 m 47 ls [.ref (ad (lk b_7 12))]) rfl ?_
      refine ugf (v := .ref (yP y (lk b_7 12) 0)) G hP (lk_9_12 c_9) iIn rfl 0 (by decide) rfl q380 rfl rfl d_Ck_stateFits_47 ?_
      refine lv_astore (lv' := [(4, .ref (yP y (lk b_7 12) 0)), (3, .int x_4), (0, .ref (ad a0)), (1, .int v1), (2, .int v2)]) G.1 G.2.1 d_Ck_stateFits_50 hl (by decide) rfl (fun ls hl => ?_)
      refine lv_aload G.1 G.2.1 d_Ck_stateFits_52 (lv_at hl 0 rfl) ?_
      refine lv_iload_n G.1 G.2.1 d_Ck_stateFits_54 rfl (lv_at hl 1 rfl) ?_
      refine uiald G hP (kdp (lk_9_12 c_9) rfl) (typ (lk_9_12 c_9) rfl) h d_Ck_stateFits_55 (fun x_10 h => ?_)
      refine lv_istore (lv' := [(5, .int x_10), (4, .ref (yP y (lk b_7 12) 0)), (3, .int x_4), (0, .ref (ad a0)), (1, .int v1), (2, .int v2)]) G.1 G.2.1 d_Ck_stateFits_56 hl (by decide) rfl (fun ls hl => ?_)
      refine lv_iload_n G.1 G.2.1 d_Ck_stateFits_58 rfl (lv_at hl 2 rfl) ?_
      refine lv_iconst (v := 2) G.1 G.2.1 d_Ck_stateFits_59 (by decide) ?_
      refine lv_iadd G.1 G.2.1 d_Ck_stateFits_60 ?_
      refine lv_iload G.1 G.2.1 d_Ck_stateFits_61 (lv_at hl 0 rfl) ?_
      refine lv_iadd G.1 G.2.1 d_Ck_stateFits_63 ?_
      refine lv_istore (lv' := [(6, .int ((x_4 + 2) + x_10)), (5, .int x_10), (4, .ref (yP y (lk b_7 12) 0)), (3, .int x_4), (0, .ref (ad a0)), (1, .int v1), (2, .int v2)]) G.1 G.2.1 d_Ck_stateFits_64 hl (by decide) rfl (fun ls hl => ?_)
      refine W.eq (g2 := F0 m 66 ls []) rfl ?_
      refine lv_aload G.1 G.2.1 d_Ck_stateFits_66 (lv_at hl 2 rfl) ?_
      refine lv_iload G.1 G.2.1 d_Ck_stateFits_68 (lv_at hl 0 rfl) ?_
      refine lv_iconst (v := 1) G.1 G.2.1 d_Ck_stateFits_70 (by decide) ?_
      refine lv_isub G.1 G.2.1 d_Ck_stateFits_71 ?_
      refine uiald G hP (kdp (lk_9_12 c_9) rfl) (typ (lk_9_12 c_9) rfl) h d_Ck_stateFits_72 (fun x_11 h => ?_)
      refine lv_istore (lv' := [(7, .int x_11), (6, .int ((x_4 + 2) + x_10)), (5, .int x_10), (4, .ref (yP y (lk b_7 12) 0)), (3, .int x_4), (0, .ref (ad a0)), (1, .int v1), (2, .int v2)]) G.1 G.2.1 d_Ck_stateFits_73 hl (by decide) rfl (fun ls hl => ?_)
      refine lv_iload_n G.1 G.2.1 d_Ck_stateFits_75 rfl (lv_at hl 7 rfl) ?_
      refine lv_ldc (v := (-2147483648)) G.1 G.2.1 G.2.2.2.2.2.2.1 (G.2.2.2.2.2.1 _ q1611) d_Ck_stateFits_76 ?_
      have J_86 : ∀ (s_j86 : St) (x2j86 : Int32) (x3j86 : Int32) (x4j86 : Nat) (x4j86k : Nat) (x5j86 : Int32) (x6j86 : Int32) (x7j86 : Int32) (z0j86 : Int32) (H : Heap) (locs : List Loc), wj_Ck_stateFits_86 y Post a0 s_j86 x2j86 x3j86 x4j86 x4j86k x5j86 x6j86 x7j86 z0j86 → va_P D CL (ws g ad y s_j86) H → va_D A (ws g ad y s_j86) → va_S A s.heap H locs → ∀ ls, lv_has ls 11 [(0, .ref (ad a0)), (2, .int x2j86), (3, .int x3j86), (4, .ref (yP y x4j86 x4j86k)), (5, .int x5j86), (6, .int x6j86), (7, .int x7j86)] → W p l e ru_Ck_stateFits s m args below meth c H locs 0 0 Q (F0 m 86 ls [.int z0j86]) := by
        intro s_j86 x2j86 x3j86 x4j86 x4j86k x5j86 x6j86 x7j86 z0j86 H locs h hP hD hS ls hl
        unfold wj_Ck_stateFits_86 at h
        obtain ⟨c_x4j86, h⟩ := h
        refine lv_istore (lv' := [(8, .int z0j86), (0, .ref (ad a0)), (2, .int x2j86), (3, .int x3j86), (4, .ref (yP y x4j86 x4j86k)), (5, .int x5j86), (6, .int x6j86), (7, .int x7j86)]) G.1 G.2.1 d_Ck_stateFits_86 hl (by decide) rfl (fun ls hl => ?_)
        refine lv_iload G.1 G.2.1 d_Ck_stateFits_88 (lv_at hl 0 rfl) ?_
        have J_102 : ∀ (s_j102 : St) (x2j102 : Int32) (x3j102 : Int32) (x4j102 : Nat) (x4j102k : Nat) (x5j102 : Int32) (x6j102 : Int32) (x7j102 : Int32) (x8j102 : Int32) (H : Heap) (locs : List Loc), wj_Ck_stateFits_102 y Post a0 s_j102 x2j102 x3j102 x4j102 x4j102k x5j102 x6j102 x7j102 x8j102 → va_P D CL (ws g ad y s_j102) H → va_D A (ws g ad y s_j102) → va_S A s.heap H locs → ∀ ls, lv_has ls 11 [(0, .ref (ad a0)), (2, .int x2j102), (3, .int x3j102), (4, .ref (yP y x4j102 x4j102k)), (5, .int x5j102), (6, .int x6j102), (7, .int x7j102), (8, .int x8j102)] → W p l e ru_Ck_stateFits s m args below meth c H locs 0 0 Q (F0 m 102 ls []) := by
          intro s_j102 x2j102 x3j102 x4j102 x4j102k x5j102 x6j102 x7j102 x8j102 H locs h hP hD hS ls hl
          unfold wj_Ck_stateFits_102 at h
          obtain ⟨c_x4j102, h⟩ := h
          refine lv_iconst (v := 0) G.1 G.2.1 d_Ck_stateFits_102 (by decide) ?_
          refine lv_istore (lv' := [(9, .int 0), (0, .ref (ad a0)), (2, .int x2j102), (3, .int x3j102), (4, .ref (yP y x4j102 x4j102k)), (5, .int x5j102), (6, .int x6j102), (7, .int x7j102), (8, .int x8j102)]) G.1 G.2.1 d_Ck_stateFits_103 hl (by decide) rfl (fun ls hl => ?_)
          unfold wl_Ck_stateFits_105 at h
          obtain ⟨I_105, μ_105, hI_105, hB_105⟩ := h
          have L_105 : ∀ (n_105 : Nat) (s_h105 : St) (x2h105 : Int32) (x3h105 : Int32) (x4h105 : Nat) (x4h105k : Nat) (x5h105 : Int32) (x6h105 : Int32) (x7h105 : Int32) (x8h105 : Int32) (x9h105 : Int32), μ_105 s_h105 x2h105 x3h105 x4h105 x4h105k x5h105 x6h105 x7h105 x8h105 x9h105 < n_105 → I_105 s_h105 x2h105 x3h105 x4h105 x4h105k x5h105 x6h105 x7h105 x8h105 x9h105 → ∀ (H : Heap) (locs : List Loc), va_P D CL (ws g ad y s_h105) H → va_D A (ws g ad y s_h105) → va_S A s.heap H locs → ∀ ls, lv_has ls 11 [(0, .ref (ad a0)), (2, .int x2h105), (3, .int x3h105), (4, .ref (yP y x4h105 x4h105k)), (5, .int x5h105), (6, .int x6h105), (7, .int x7h105), (8, .int x8h105), (9, .int x9h105)] → W p l e ru_Ck_stateFits s m args below meth c H locs 0 0 Q (F0 m 105 ls []) := by
            intro n_105
            induction n_105 with
            | zero => intro s_h105 x2h105 x3h105 x4h105 x4h105k x5h105 x6h105 x7h105 x8h105 x9h105 hμ; exact absurd hμ (Nat.not_lt_zero _)
            | succ n_105 ih_105 =>
              intro s_h105 x2h105 x3h105 x4h105 x4h105k x5h105 x6h105 x7h105 x8h105 x9h105 hμ_105 hJ H locs hP hD hS ls hl
              obtain ⟨K_105, hK_105, h⟩ : ∃ K : St → Int32 → Int32 → Nat → Nat → Int32 → Int32 → Int32 → Int32 → Int32 → Prop, (∀ z (t0 : Int32) (t1 : Int32) (t2 : Nat) (t3 : Nat) (t4 : Int32) (t5 : Int32) (t6 : Int32) (t7 : Int32) (t8 : Int32), K z t0 t1 t2 t3 t4 t5 t6 t7 t8 → I_105 z t0 t1 t2 t3 t4 t5 t6 t7 t8 ∧ μ_105 z t0 t1 t2 t3 t4 t5 t6 t7 t8 < μ_105 s_h105 x2h105 x3h105 x4h105 x4h105k x5h105 x6h105 x7h105 x8h105 x9h105) ∧ wb_Ck_stateFits_105 y Post K a0 s_h105 x2h105 x3h105 x4h105 x4h105k x5h105 x6h105 x7h105 x8h105 x9h105 := ⟨_, fun _ _ _ _ _ _ _ _ _ _ h => h, hB_105 s_h105 x2h105 x3h105 x4h105 x4h105k x5h105 x6h105 x7h105 x8h105 x9h105 hJ⟩
              unfold wb_Ck_stateFits_105 at h
              obtain ⟨c_x4h105, h⟩ := h
              refine lv_iload G.1 G.2.1 d_Ck_stateFits_105 (lv_at hl 8 rfl) ?_
              refine lv_aload_n G.1 G.2.1 d_Ck_stateFits_107 rfl (lv_at hl 0 rfl) ?_
              refine ugf (v := .int (sV s_h105 a0 7)) G hP h_a0 iCk rfl 7 (by decide) rfl q658 rfl rfl d_Ck_stateFits_108 ?_
              refine lv_icmp_ge (tgt := 161) G.1 G.2.1 d_Ck_stateFits_111 (by decide) (fun c111 => ?_) (fun c111 => ?_)
              · skip
                have h := h.1 c111
                refine lv_iload G.1 G.2.1 d_Ck_stateFits_161 (lv_at hl 7 rfl) ?_
                have J_178 : ∀ (s_j178 : St) (x2j178 : Int32) (x4j178 : Nat) (x4j178k : Nat) (x6j178 : Int32) (x7j178 : Int32) (x8j178 : Int32) (H : Heap) (locs : List Loc), wj_Ck_stateFits_178 y Post a0 s_j178 x2j178 x4j178 x4j178k x6j178 x7j178 x8j178 → va_P D CL (ws g ad y s_j178) H → va_D A (ws g ad y s_j178) → va_S A s.heap H locs → ∀ ls, lv_has ls 11 [(0, .ref (ad a0)), (2, .int x2j178), (4, .ref (yP y x4j178 x4j178k)), (6, .int x6j178), (7, .int x7j178), (8, .int x8j178)] → W p l e ru_Ck_stateFits s m args below meth c H locs 0 0 Q (F0 m 178 ls []) := by
                  intro s_j178 x2j178 x4j178 x4j178k x6j178 x7j178 x8j178 H locs h hP hD hS ls hl
                  unfold wj_Ck_stateFits_178 at h
                  obtain ⟨c_x4j178, h⟩ := h
                  refine lv_iconst (v := 0) G.1 G.2.1 d_Ck_stateFits_178 (by decide) ?_
                  refine lv_istore (lv' := [(9, .int 0), (0, .ref (ad a0)), (2, .int x2j178), (4, .ref (yP y x4j178 x4j178k)), (6, .int x6j178), (7, .int x7j178), (8, .int x8j178)]) G.1 G.2.1 d_Ck_stateFits_179 hl (by decide) rfl (fun ls hl => ?_)
                  unfold wl_Ck_stateFits_181 at h
                  obtain ⟨I_181, μ_181, hI_181, hB_181⟩ := h
                  have L_181 : ∀ (n_181 : Nat) (s_h181 : St) (x2h181 : Int32) (x4h181 : Nat) (x4h181k : Nat) (x6h181 : Int32) (x7h181 : Int32) (x8h181 : Int32) (x9h181 : Int32), μ_181 s_h181 x2h181 x4h181 x4h181k x6h181 x7h181 x8h181 x9h181 < n_181 → I_181 s_h181 x2h181 x4h181 x4h181k x6h181 x7h181 x8h181 x9h181 → ∀ (H : Heap) (locs : List Loc), va_P D CL (ws g ad y s_h181) H → va_D A (ws g ad y s_h181) → va_S A s.heap H locs → ∀ ls, lv_has ls 11 [(0, .ref (ad a0)), (2, .int x2h181), (4, .ref (yP y x4h181 x4h181k)), (6, .int x6h181), (7, .int x7h181), (8, .int x8h181), (9, .int x9h181)] → W p l e ru_Ck_stateFits s m args below meth c H locs 0 0 Q (F0 m 181 ls []) := by
                    intro n_181
                    induction n_181 with
                    | zero => intro s_h181 x2h181 x4h181 x4h181k x6h181 x7h181 x8h181 x9h181 hμ; exact absurd hμ (Nat.not_lt_zero _)
                    | succ n_181 ih_181 =>
                      intro s_h181 x2h181 x4h181 x4h181k x6h181 x7h181 x8h181 x9h181 hμ_181 hJ H locs hP hD hS ls hl
                      obtain ⟨K_181, hK_181, h⟩ : ∃ K : St → Int32 → Nat → Nat → Int32 → Int32 → Int32 → Int32 → Prop, (∀ z (t0 : Int32) (t1 : Nat) (t2 : Nat) (t3 : Int32) (t4 : Int32) (t5 : Int32) (t6 : Int32), K z t0 t1 t2 t3 t4 t5 t6 → I_181 z t0 t1 t2 t3 t4 t5 t6 ∧ μ_181 z t0 t1 t2 t3 t4 t5 t6 < μ_181 s_h181 x2h181 x4h181 x4h181k x6h181 x7h181 x8h181 x9h181) ∧ wb_Ck_stateFits_181 y Post K a0 s_h181 x2h181 x4h181 x4h181k x6h181 x7h181 x8h181 x9h181 := ⟨_, fun _ _ _ _ _ _ _ _ h => h, hB_181 s_h181 x2h181 x4h181 x4h181k x6h181 x7h181 x8h181 x9h181 hJ⟩
                      unfold wb_Ck_stateFits_181 at h
                      obtain ⟨c_x4h181, h⟩ := h
                      refine lv_iload G.1 G.2.1 d_Ck_stateFits_181 (lv_at hl 6 rfl) ?_
                      refine lv_iload G.1 G.2.1 d_Ck_stateFits_183 (lv_at hl 4 rfl) ?_
                      refine lv_icmp_ge (tgt := 235) G.1 G.2.1 d_Ck_stateFits_185 (by decide) (fun c185 => ?_) (fun c185 => ?_)
                      · skip
                        have h := h.1 c185
                        refine lv_iconst (v := 0) G.1 G.2.1 d_Ck_stateFits_235 (by decide) ?_
                        exact hret _ _ _ _ _ _ _ ls h hP hD hS (Nat.le_refl _) (Nat.le_refl _) d_Ck_stateFits_236
                      · skip
                        have h := h.2 c185
                        refine lv_aload_n G.1 G.2.1 d_Ck_stateFits_188 rfl (lv_at hl 0 rfl) ?_
                        refine lv_iload G.1 G.2.1 d_Ck_stateFits_189 (lv_at hl 5 rfl) ?_
                        have J_208 : ∀ (s_j208 : St) (x2j208 : Int32) (x4j208 : Nat) (x4j208k : Nat) (x6j208 : Int32) (x7j208 : Int32) (x8j208 : Int32) (x9j208 : Int32) (z1j208 : Int32) (H : Heap) (locs : List Loc), wj_Ck_stateFits_208 y Post K_181 a0 s_j208 x2j208 x4j208 x4j208k x6j208 x7j208 x8j208 x9j208 z1j208 → va_P D CL (ws g ad y s_j208) H → va_D A (ws g ad y s_j208) → va_S A s.heap H locs → ∀ ls, lv_has ls 11 [(0, .ref (ad a0)), (2, .int x2j208), (4, .ref (yP y x4j208 x4j208k)), (6, .int x6j208), (7, .int x7j208), (8, .int x8j208), (9, .int x9j208)] → W p l e ru_Ck_stateFits s m args below meth c H locs 0 0 Q (F0 m 208 ls [.int z1j208, .ref (ad a0)]) := by
                          intro s_j208 x2j208 x4j208 x4j208k x6j208 x7j208 x8j208 x9j208 z1j208 H locs h hP hD hS ls hl
                          unfold wj_Ck_stateFits_208 at h
                          obtain ⟨c_x4j208, h⟩ := h
                          refine lv_aload G.1 G.2.1 d_Ck_stateFits_208 (lv_at hl 2 rfl) ?_
                          refine lv_iload G.1 G.2.1 d_Ck_stateFits_210 (lv_at hl 3 rfl) ?_
                          refine lv_iload G.1 G.2.1 d_Ck_stateFits_212 (lv_at hl 6 rfl) ?_
                          refine lv_iadd G.1 G.2.1 d_Ck_stateFits_214 ?_
                          refine uiald G hP c_x4j208.1 c_x4j208.2 h d_Ck_stateFits_215 (fun x_12 h => ?_)
                          refine ucVi (As := [.int z1j208, .int x_12]) (rest := []) G hP hD hS (cu_Ck_fits l D g ad y _ s_j208 a0 z1j208 x_12 H.size h_a0 h) w9_Ck_fits q1620 ⟨Nat.le_of_ble_eq_true rfl, Nat.le_of_ble_eq_true rfl⟩ rfl rfl h_a0 (q := (RCk, TCk, 22)) rfl rfl hl.1 rfl (Nat.le_of_ble_eq_true rfl) rfl ⟨Nat.le_refl _, Nat.le_refl _⟩ d_Ck_stateFits_216 (fun r_13 s_14 H locs h hP hD hS => ?_)
                          refine lv_istore (lv' := [(10, .int r_13), (0, .ref (ad a0)), (2, .int x2j208), (4, .ref (yP y x4j208 x4j208k)), (6, .int x6j208), (7, .int x7j208), (8, .int x8j208), (9, .int x9j208)]) G.1 G.2.1 d_Ck_stateFits_219 hl (by decide) rfl (fun ls hl => ?_)
                          refine lv_iload G.1 G.2.1 d_Ck_stateFits_221 (lv_at hl 0 rfl) ?_
                          refine lv_if_eq (tgt := 229) G.1 G.2.1 d_Ck_stateFits_223 (by decide) (fun c223 => ?_) (fun c223 => ?_)
                          · skip
                            have h := h.1 c223
                            refine lv_iinc (v := x9j208 + 1) (lv' := [(9, .int (x9j208 + 1)), (10, .int r_13), (0, .ref (ad a0)), (2, .int x2j208), (4, .ref (yP y x4j208 x4j208k)), (6, .int x6j208), (7, .int x7j208), (8, .int x8j208)]) G.1 G.2.1 d_Ck_stateFits_229 hl (k := 7) rfl rfl (by decide) rfl (fun ls hl => ?_)
                            refine lv_goto (tgt := 181) G.1 G.2.1 d_Ck_stateFits_232 (by decide) ?_
                            have h := hK_181 s_14 x2j208 x4j208 x4j208k x6j208 x7j208 x8j208 (x9j208 + 1) h
                            exact ih_181 s_14 x2j208 x4j208 x4j208k x6j208 x7j208 x8j208 (x9j208 + 1) (Nat.lt_of_lt_of_le h.2 (Nat.le_of_lt_succ hμ_181)) h.1 H locs hP hD hS ls (lv_sub hl [2, 3, 4, 5, 6, 7, 0] rfl)
                          · skip
                            have h := h.2 c223
                            refine lv_iload G.1 G.2.1 d_Ck_stateFits_226 (lv_at hl 0 rfl) ?_
                            exact hret _ _ _ _ _ _ _ ls h hP hD hS (Nat.le_refl _) (Nat.le_refl _) d_Ck_stateFits_228
                        refine lv_if_eq (tgt := 198) G.1 G.2.1 d_Ck_stateFits_191 (by decide) (fun c191 => ?_) (fun c191 => ?_)
                        · skip
                          have h := h.1 c191
                          refine lv_aload_n G.1 G.2.1 d_Ck_stateFits_198 rfl (lv_at hl 0 rfl) ?_
                          refine ugf (v := .ref (yP y a0 15)) G hP h_a0 iCk rfl 15 (by decide) rfl q666 rfl rfl d_Ck_stateFits_199 ?_
                          refine lv_bipush (v := 20) G.1 G.2.1 d_Ck_stateFits_202 (by decide) ?_
                          refine lv_iload G.1 G.2.1 d_Ck_stateFits_204 (lv_at hl 6 rfl) ?_
                          refine lv_iadd G.1 G.2.1 d_Ck_stateFits_206 ?_
                          refine W.eq (g2 := F0 m 207 ls [.int (20 + x9h181), .ref (yP y a0 15), .ref (ad a0)]) rfl ?_
                          refine uiald G hP (kdp h_a0 rfl) (typ h_a0 rfl) h d_Ck_stateFits_207 (fun x_15 h => ?_)
                          exact J_208 s_h181 x2h181 x4h181 x4h181k x6h181 x7h181 x8h181 x9h181 x_15 H locs h hP hD hS ls (lv_sub hl [0, 1, 2, 3, 4, 5, 6] rfl)
                        · skip
                          have h := h.2 c191
                          refine lv_iload_n G.1 G.2.1 d_Ck_stateFits_194 rfl (lv_at hl 1 rfl) ?_
                          refine lv_goto (tgt := 208) G.1 G.2.1 d_Ck_stateFits_195 (by decide) ?_
                          exact J_208 s_h181 x2h181 x4h181 x4h181k x6h181 x7h181 x8h181 x9h181 x2h181 H locs h hP hD hS ls (lv_sub hl [0, 1, 2, 3, 4, 5, 6] rfl)
                  exact L_181 _ s_j178 x2j178 x4j178 x4j178k x6j178 x7j178 x8j178 0 (Nat.lt_succ_self _) hI_181 H locs hP hD hS ls (lv_sub hl [1, 2, 3, 4, 5, 6, 0] rfl)
                refine lv_if_ne (tgt := 178) G.1 G.2.1 d_Ck_stateFits_163 (by decide) (fun c163 => ?_) (fun c163 => ?_)
                · skip
                  have h := h.1 c163
                  exact J_178 s_h105 x2h105 x4h105 x4h105k x6h105 x7h105 x8h105 H locs h hP hD hS ls (lv_sub hl [0, 1, 3, 5, 6, 7] rfl)
                · skip
                  have h := h.2 c163
                  refine lv_iload G.1 G.2.1 d_Ck_stateFits_166 (lv_at hl 6 rfl) ?_
                  refine lv_aload_n G.1 G.2.1 d_Ck_stateFits_168 rfl (lv_at hl 0 rfl) ?_
                  refine ugf (v := .int (sV s_h105 a0 16)) G hP h_a0 iCk rfl 16 (by decide) rfl q667 rfl rfl d_Ck_stateFits_169 ?_
                  refine lv_icmp_eq (tgt := 178) G.1 G.2.1 d_Ck_stateFits_172 (by decide) (fun c172 => ?_) (fun c172 => ?_)
                  · skip
                    have h := h.1 c172
                    exact J_178 s_h105 x2h105 x4h105 x4h105k x6h105 x7h105 x8h105 H locs h hP hD hS ls (lv_sub hl [0, 1, 3, 5, 6, 7] rfl)
                  · skip
                    have h := h.2 c172
                    refine lv_bipush (v := 37) G.1 G.2.1 d_Ck_stateFits_175 (by decide) ?_
                    refine W.eq (g2 := F0 m 177 ls [.int 37]) rfl ?_
                    exact hret _ _ _ _ _ _ _ ls h hP hD hS (Nat.le_refl _) (Nat.le_refl _) d_Ck_stateFits_177
              · skip
                have h := h.2 c111
                refine lv_aload_n G.1 G.2.1 d_Ck_stateFits_114 rfl (lv_at hl 0 rfl) ?_
                refine lv_aload_n G.1 G.2.1 d_Ck_stateFits_115 rfl (lv_at hl 0 rfl) ?_
                refine ugf (v := .ref (yP y a0 15)) G hP h_a0 iCk rfl 15 (by decide) rfl q666 rfl rfl d_Ck_stateFits_116 ?_
                refine lv_iload G.1 G.2.1 d_Ck_stateFits_119 (lv_at hl 8 rfl) ?_
                refine uiald G hP (kdp h_a0 rfl) (typ h_a0 rfl) h d_Ck_stateFits_121 (fun x_16 h => ?_)
                refine lv_iload G.1 G.2.1 d_Ck_stateFits_122 (lv_at hl 8 rfl) ?_
                refine lv_iload G.1 G.2.1 d_Ck_stateFits_124 (lv_at hl 4 rfl) ?_
                have J_142 : ∀ (s_j142 : St) (x2j142 : Int32) (x3j142 : Int32) (x4j142 : Nat) (x4j142k : Nat) (x5j142 : Int32) (x6j142 : Int32) (x7j142 : Int32) (x8j142 : Int32) (x9j142 : Int32) (z1j142 : Int32) (z2j142 : Int32) (H : Heap) (locs : List Loc), wj_Ck_stateFits_142 y Post K_105 a0 s_j142 x2j142 x3j142 x4j142 x4j142k x5j142 x6j142 x7j142 x8j142 x9j142 z1j142 z2j142 → va_P D CL (ws g ad y s_j142) H → va_D A (ws g ad y s_j142) → va_S A s.heap H locs → ∀ ls, lv_has ls 11 [(0, .ref (ad a0)), (2, .int x2j142), (3, .int x3j142), (4, .ref (yP y x4j142 x4j142k)), (5, .int x5j142), (6, .int x6j142), (7, .int x7j142), (8, .int x8j142), (9, .int x9j142)] → W p l e ru_Ck_stateFits s m args below meth c H locs 0 0 Q (F0 m 142 ls [.int z2j142, .int z1j142, .ref (ad a0)]) := by
                  intro s_j142 x2j142 x3j142 x4j142 x4j142k x5j142 x6j142 x7j142 x8j142 x9j142 z1j142 z2j142 H locs h hP hD hS ls hl
                  unfold wj_Ck_stateFits_142 at h
                  obtain ⟨c_x4j142, h⟩ := h
                  refine ucVi (As := [.int z1j142, .int z2j142]) (rest := []) G hP hD hS (cu_Ck_fits l D g ad y _ s_j142 a0 z1j142 z2j142 H.size h_a0 h) w9_Ck_fits q1620 ⟨Nat.le_of_ble_eq_true rfl, Nat.le_of_ble_eq_true rfl⟩ rfl rfl h_a0 (q := (RCk, TCk, 22)) rfl rfl hl.1 rfl (Nat.le_of_ble_eq_true rfl) rfl ⟨Nat.le_refl _, Nat.le_refl _⟩ d_Ck_stateFits_142 (fun r_17 s_18 H locs h hP hD hS => ?_)
                  refine lv_istore (lv' := [(10, .int r_17), (0, .ref (ad a0)), (2, .int x2j142), (3, .int x3j142), (4, .ref (yP y x4j142 x4j142k)), (5, .int x5j142), (6, .int x6j142), (7, .int x7j142), (8, .int x8j142), (9, .int x9j142)]) G.1 G.2.1 d_Ck_stateFits_145 hl (by decide) rfl (fun ls hl => ?_)
                  refine lv_iload G.1 G.2.1 d_Ck_stateFits_147 (lv_at hl 0 rfl) ?_
                  refine lv_if_eq (tgt := 155) G.1 G.2.1 d_Ck_stateFits_149 (by decide) (fun c149 => ?_) (fun c149 => ?_)
                  · skip
                    have h := h.1 c149
                    refine lv_iinc (v := x9j142 + 1) (lv' := [(9, .int (x9j142 + 1)), (10, .int r_17), (0, .ref (ad a0)), (2, .int x2j142), (3, .int x3j142), (4, .ref (yP y x4j142 x4j142k)), (5, .int x5j142), (6, .int x6j142), (7, .int x7j142), (8, .int x8j142)]) G.1 G.2.1 d_Ck_stateFits_155 hl (k := 9) rfl rfl (by decide) rfl (fun ls hl => ?_)
                    refine lv_goto (tgt := 105) G.1 G.2.1 d_Ck_stateFits_158 (by decide) ?_
                    have h := hK_105 s_18 x2j142 x3j142 x4j142 x4j142k x5j142 x6j142 x7j142 x8j142 (x9j142 + 1) h
                    exact ih_105 s_18 x2j142 x3j142 x4j142 x4j142k x5j142 x6j142 x7j142 x8j142 (x9j142 + 1) (Nat.lt_of_lt_of_le h.2 (Nat.le_of_lt_succ hμ_105)) h.1 H locs hP hD hS ls (lv_sub hl [2, 3, 4, 5, 6, 7, 8, 9, 0] rfl)
                  · skip
                    have h := h.2 c149
                    refine lv_iload G.1 G.2.1 d_Ck_stateFits_152 (lv_at hl 0 rfl) ?_
                    exact hret _ _ _ _ _ _ _ ls h hP hD hS (Nat.le_refl _) (Nat.le_refl _) d_Ck_stateFits_154
                refine W.eq (g2 := F0 m 126 ls [.int x5h105, .int x9h105, .int x_16, .ref (ad a0)]) rfl ?_
                refine lv_icmp_ge (tgt := 141) G.1 G.2.1 d_Ck_stateFits_126 (by decide) (fun c126 => ?_) (fun c126 => ?_)
                · skip
                  have h := h.1 c126
                  refine lv_iconst (v := 3) G.1 G.2.1 d_Ck_stateFits_141 (by decide) ?_
                  exact J_142 s_h105 x2h105 x3h105 x4h105 x4h105k x5h105 x6h105 x7h105 x8h105 x9h105 x_16 3 H locs h hP hD hS ls (lv_sub hl [0, 1, 2, 3, 4, 5, 6, 7, 8] rfl)
                · skip
                  have h := h.2 c126
                  refine lv_aload G.1 G.2.1 d_Ck_stateFits_129 (lv_at hl 3 rfl) ?_
                  refine lv_iload_n G.1 G.2.1 d_Ck_stateFits_131 rfl (lv_at hl 2 rfl) ?_
                  refine lv_iconst (v := 1) G.1 G.2.1 d_Ck_stateFits_132 (by decide) ?_
                  refine lv_iadd G.1 G.2.1 d_Ck_stateFits_133 ?_
                  refine lv_iload G.1 G.2.1 d_Ck_stateFits_134 (lv_at hl 8 rfl) ?_
                  refine lv_iadd G.1 G.2.1 d_Ck_stateFits_136 ?_
                  refine uiald G hP c_x4h105.1 c_x4h105.2 h d_Ck_stateFits_137 (fun x_19 h => ?_)
                  refine lv_goto (tgt := 142) G.1 G.2.1 d_Ck_stateFits_138 (by decide) ?_
                  exact J_142 s_h105 x2h105 x3h105 x4h105 x4h105k x5h105 x6h105 x7h105 x8h105 x9h105 x_16 x_19 H locs h hP hD hS ls (lv_sub hl [0, 1, 2, 3, 4, 5, 6, 7, 8] rfl)
          exact L_105 _ s_j102 x2j102 x3j102 x4j102 x4j102k x5j102 x6j102 x7j102 x8j102 0 (Nat.lt_succ_self _) hI_105 H locs hP hD hS ls (lv_sub hl [1, 2, 3, 4, 5, 6, 7, 8, 0] rfl)
        refine lv_if_eq (tgt := 102) G.1 G.2.1 d_Ck_stateFits_90 (by decide) (fun c90 => ?_) (fun c90 => ?_)
        · skip
          have h := h.1 c90
          exact J_102 s_j86 x2j86 x3j86 x4j86 x4j86k x5j86 x6j86 x7j86 z0j86 H locs h hP hD hS ls (lv_sub hl [1, 2, 3, 4, 5, 6, 7, 0] rfl)
        · skip
          have h := h.2 c90
          refine lv_iload G.1 G.2.1 d_Ck_stateFits_93 (lv_at hl 7 rfl) ?_
          refine lv_iconst (v := 1) G.1 G.2.1 d_Ck_stateFits_95 (by decide) ?_
          refine lv_icmp_eq (tgt := 102) G.1 G.2.1 d_Ck_stateFits_96 (by decide) (fun c96 => ?_) (fun c96 => ?_)
          · skip
            have h := h.1 c96
            exact J_102 s_j86 x2j86 x3j86 x4j86 x4j86k x5j86 x6j86 x7j86 z0j86 H locs h hP hD hS ls (lv_sub hl [1, 2, 3, 4, 5, 6, 7, 0] rfl)
          · skip
            have h := h.2 c96
            refine lv_bipush (v := 37) G.1 G.2.1 d_Ck_stateFits_99 (by decide) ?_
            exact hret _ _ _ _ _ _ _ ls h hP hD hS (Nat.le_refl _) (Nat.le_refl _) d_Ck_stateFits_101
      refine lv_icmp_eq (tgt := 85) G.1 G.2.1 d_Ck_stateFits_78 (by decide) (fun c78 => ?_) (fun c78 => ?_)
      · skip
        have h := h.1 c78
        refine lv_iconst (v := 0) G.1 G.2.1 d_Ck_stateFits_85 (by decide) ?_
        exact J_86 s_6 v2 x_4 (lk b_7 12) 0 x_10 ((x_4 + 2) + x_10) x_11 0 H locs h hP hD hS ls (lv_sub hl [5, 7, 4, 3, 2, 1, 0] rfl)
      · skip
        have h := h.2 c78
        refine lv_iconst (v := 1) G.1 G.2.1 d_Ck_stateFits_81 (by decide) ?_
        refine lv_goto (tgt := 86) G.1 G.2.1 d_Ck_stateFits_82 (by decide) ?_
        exact J_86 s_6 v2 x_4 (lk b_7 12) 0 x_10 ((x_4 + 2) + x_10) x_11 1 H locs h hP hD hS ls (lv_sub hl [5, 7, 4, 3, 2, 1, 0] rfl)
    · skip
      have h := h.2 c34
      refine lv_bipush (v := 38) G.1 G.2.1 d_Ck_stateFits_37 (by decide) ?_
      exact hret _ _ _ _ _ _ _ ls h hP hD hS (Nat.le_refl _) (Nat.le_refl _) d_Ck_stateFits_39
  · skip
    have h := h.2 c23
    refine lv_bipush (v := 36) G.1 G.2.1 d_Ck_stateFits_26 (by decide) ?_
    exact hret _ _ _ _ _ _ _ ls h hP hD hS (Nat.le_refl _) (Nat.le_refl _) d_Ck_stateFits_28
theorem q1607 : Cond.methodLink "ClassWorks$Checker" 172 y_Ck_operand ∈ lw_ok := lw_okmem (List.mem_of_getElem? (i := 1607) (by decide +kernel)) rfl
theorem q1610 : Cond.code y_Ck_operand b_Ck_operand 2 (some .int) ∈ lw_ok := lw_okmem (List.mem_of_getElem? (i := 1610) (by decide +kernel)) rfl
theorem q1609 : Cond.instanceMethod y_Ck_operand ∈ lw_ok := lw_okmem (List.mem_of_getElem? (i := 1609) (by decide +kernel)) rfl
theorem q53 : Cond.selects y_Ck_operand.cls y_Ck_operand y_Ck_operand ∈ lw_ok := lw_okmem (List.mem_of_getElem? (i := 53) (by decide +kernel)) rfl
theorem w9_Ck_operand : CWv y_Ck_operand b_Ck_operand 2 (some .int) 1 ∧ Cond.instanceMethod y_Ck_operand ∈ lw_ok ∧ Cond.selects y_Ck_operand.cls y_Ck_operand y_Ck_operand ∈ lw_ok := ⟨⟨q1610, q341, by decide +kernel, by decide +kernel, by decide +kernel⟩, q1609, q53⟩
theorem q1612 : Cond.methodLink "ClassWorks$Checker" 176 y_Ck_stateFits ∈ lw_ok := lw_okmem (List.mem_of_getElem? (i := 1612) (by decide +kernel)) rfl
theorem q1615 : Cond.code y_Ck_stateFits b_Ck_stateFits 11 (some .int) ∈ lw_ok := lw_okmem (List.mem_of_getElem? (i := 1615) (by decide +kernel)) rfl
theorem q1614 : Cond.instanceMethod y_Ck_stateFits ∈ lw_ok := lw_okmem (List.mem_of_getElem? (i := 1614) (by decide +kernel)) rfl
theorem q54 : Cond.selects y_Ck_stateFits.cls y_Ck_stateFits y_Ck_stateFits ∈ lw_ok := lw_okmem (List.mem_of_getElem? (i := 54) (by decide +kernel)) rfl
theorem w9_Ck_stateFits : CWv y_Ck_stateFits b_Ck_stateFits 11 (some .int) 2 ∧ Cond.instanceMethod y_Ck_stateFits ∈ lw_ok ∧ Cond.selects y_Ck_stateFits.cls y_Ck_stateFits y_Ck_stateFits ∈ lw_ok := ⟨⟨q1615, q341, by decide +kernel, by decide +kernel, by decide +kernel⟩, q1614, q54⟩
def y_Ck_arrive : MethodName := ⟨"ClassWorks$Checker", "arrive", "(IZ)I"⟩
abbrev b_Ck_arrive : ByteArray := prog_2_method_8_code
theorem d_Ck_arrive_0 : decode b_Ck_arrive 0 = .ok (.aload_n 0, 1) := by decide +kernel
theorem d_Ck_arrive_1 : decode b_Ck_arrive 1 = .ok (.iconst 4, 1) := by decide +kernel
theorem d_Ck_arrive_2 : decode b_Ck_arrive 2 = .ok (.invokevirtual 172, 3) := by decide +kernel
theorem d_Ck_arrive_5 : decode b_Ck_arrive 5 = .ok (.istore_n 3, 1) := by decide +kernel
theorem d_Ck_arrive_6 : decode b_Ck_arrive 6 = .ok (.iload_n 3, 1) := by decide +kernel
theorem d_Ck_arrive_7 : decode b_Ck_arrive 7 = .ok (.ifCond .ge 14, 3) := by decide +kernel
theorem d_Ck_arrive_10 : decode b_Ck_arrive 10 = .ok (.iload_n 2, 1) := by decide +kernel
theorem d_Ck_arrive_11 : decode b_Ck_arrive 11 = .ok (.ifCond .eq 7, 3) := by decide +kernel
theorem d_Ck_arrive_14 : decode b_Ck_arrive 14 = .ok (.iconst 0, 1) := by decide +kernel
theorem d_Ck_arrive_15 : decode b_Ck_arrive 15 = .ok (.goto 5, 3) := by decide +kernel
theorem d_Ck_arrive_18 : decode b_Ck_arrive 18 = .ok (.bipush 36, 2) := by decide +kernel
theorem d_Ck_arrive_20 : decode b_Ck_arrive 20 = .ok (.ireturn, 1) := by decide +kernel
theorem d_Ck_arrive_21 : decode b_Ck_arrive 21 = .ok (.iload_n 2, 1) := by decide +kernel
theorem d_Ck_arrive_22 : decode b_Ck_arrive 22 = .ok (.ifCond .eq 13, 3) := by decide +kernel
theorem d_Ck_arrive_25 : decode b_Ck_arrive 25 = .ok (.aload_n 0, 1) := by decide +kernel
theorem d_Ck_arrive_26 : decode b_Ck_arrive 26 = .ok (.iload_n 1, 1) := by decide +kernel
theorem d_Ck_arrive_27 : decode b_Ck_arrive 27 = .ok (.ldc 175, 2) := by decide +kernel
theorem d_Ck_arrive_29 : decode b_Ck_arrive 29 = .ok (.invokevirtual 176, 3) := by decide +kernel
theorem d_Ck_arrive_32 : decode b_Ck_arrive 32 = .ok (.goto 17, 3) := by decide +kernel
theorem d_Ck_arrive_35 : decode b_Ck_arrive 35 = .ok (.aload_n 0, 1) := by decide +kernel
theorem d_Ck_arrive_36 : decode b_Ck_arrive 36 = .ok (.iload_n 3, 1) := by decide +kernel
theorem d_Ck_arrive_37 : decode b_Ck_arrive 37 = .ok (.invokevirtual 179, 3) := by decide +kernel
theorem d_Ck_arrive_40 : decode b_Ck_arrive 40 = .ok (.ifCond .eq 8, 3) := by decide +kernel
theorem d_Ck_arrive_43 : decode b_Ck_arrive 43 = .ok (.bipush 38, 2) := by decide +kernel
theorem d_Ck_arrive_45 : decode b_Ck_arrive 45 = .ok (.goto 4, 3) := by decide +kernel
theorem d_Ck_arrive_48 : decode b_Ck_arrive 48 = .ok (.iconst 0, 1) := by decide +kernel
theorem d_Ck_arrive_49 : decode b_Ck_arrive 49 = .ok (.istore 4, 2) := by decide +kernel
theorem d_Ck_arrive_51 : decode b_Ck_arrive 51 = .ok (.iload 4, 2) := by decide +kernel
theorem d_Ck_arrive_53 : decode b_Ck_arrive 53 = .ok (.ifCond .eq 6, 3) := by decide +kernel
theorem d_Ck_arrive_56 : decode b_Ck_arrive 56 = .ok (.iload 4, 2) := by decide +kernel
theorem d_Ck_arrive_58 : decode b_Ck_arrive 58 = .ok (.ireturn, 1) := by decide +kernel
theorem d_Ck_arrive_59 : decode b_Ck_arrive 59 = .ok (.aload_n 0, 1) := by decide +kernel
theorem d_Ck_arrive_60 : decode b_Ck_arrive 60 = .ok (.getfield 78, 3) := by decide +kernel
theorem d_Ck_arrive_63 : decode b_Ck_arrive 63 = .ok (.getfield 183, 3) := by decide +kernel
theorem d_Ck_arrive_66 : decode b_Ck_arrive 66 = .ok (.getfield 116, 3) := by decide +kernel
theorem d_Ck_arrive_69 : decode b_Ck_arrive 69 = .ok (.astore 5, 2) := by decide +kernel
theorem d_Ck_arrive_71 : decode b_Ck_arrive 71 = .ok (.aload 5, 2) := by decide +kernel
theorem d_Ck_arrive_73 : decode b_Ck_arrive 73 = .ok (.iload_n 3, 1) := by decide +kernel
theorem d_Ck_arrive_74 : decode b_Ck_arrive 74 = .ok (.iaload, 1) := by decide +kernel
theorem d_Ck_arrive_75 : decode b_Ck_arrive 75 = .ok (.istore 6, 2) := by decide +kernel
theorem d_Ck_arrive_77 : decode b_Ck_arrive 77 = .ok (.iconst 0, 1) := by decide +kernel
theorem d_Ck_arrive_78 : decode b_Ck_arrive 78 = .ok (.istore 7, 2) := by decide +kernel
theorem d_Ck_arrive_80 : decode b_Ck_arrive 80 = .ok (.iload 7, 2) := by decide +kernel
theorem d_Ck_arrive_82 : decode b_Ck_arrive 82 = .ok (.aload_n 0, 1) := by decide +kernel
theorem d_Ck_arrive_83 : decode b_Ck_arrive 83 = .ok (.getfield 27, 3) := by decide +kernel
theorem d_Ck_arrive_86 : decode b_Ck_arrive 86 = .ok (.if_icmp .ge 36, 3) := by decide +kernel
theorem d_Ck_arrive_89 : decode b_Ck_arrive 89 = .ok (.aload_n 0, 1) := by decide +kernel
theorem d_Ck_arrive_90 : decode b_Ck_arrive 90 = .ok (.getfield 52, 3) := by decide +kernel
theorem d_Ck_arrive_93 : decode b_Ck_arrive 93 = .ok (.iload 7, 2) := by decide +kernel
theorem d_Ck_arrive_95 : decode b_Ck_arrive 95 = .ok (.iload 7, 2) := by decide +kernel
theorem d_Ck_arrive_97 : decode b_Ck_arrive 97 = .ok (.iload 6, 2) := by decide +kernel
theorem d_Ck_arrive_99 : decode b_Ck_arrive 99 = .ok (.if_icmp .ge 15, 3) := by decide +kernel
theorem d_Ck_arrive_102 : decode b_Ck_arrive 102 = .ok (.aload 5, 2) := by decide +kernel
theorem d_Ck_arrive_104 : decode b_Ck_arrive 104 = .ok (.iload_n 3, 1) := by decide +kernel
theorem d_Ck_arrive_105 : decode b_Ck_arrive 105 = .ok (.iconst 1, 1) := by decide +kernel
theorem d_Ck_arrive_106 : decode b_Ck_arrive 106 = .ok (.iadd, 1) := by decide +kernel
theorem d_Ck_arrive_107 : decode b_Ck_arrive 107 = .ok (.iload 7, 2) := by decide +kernel
theorem d_Ck_arrive_109 : decode b_Ck_arrive 109 = .ok (.iadd, 1) := by decide +kernel
theorem d_Ck_arrive_110 : decode b_Ck_arrive 110 = .ok (.iaload, 1) := by decide +kernel
theorem d_Ck_arrive_111 : decode b_Ck_arrive 111 = .ok (.goto 4, 3) := by decide +kernel
theorem d_Ck_arrive_114 : decode b_Ck_arrive 114 = .ok (.iconst 3, 1) := by decide +kernel
theorem d_Ck_arrive_115 : decode b_Ck_arrive 115 = .ok (.iastore, 1) := by decide +kernel
theorem d_Ck_arrive_116 : decode b_Ck_arrive 116 = .ok (.iinc 7 1, 3) := by decide +kernel
theorem d_Ck_arrive_119 : decode b_Ck_arrive 119 = .ok (.goto (-39), 3) := by decide +kernel
theorem d_Ck_arrive_122 : decode b_Ck_arrive 122 = .ok (.aload_n 0, 1) := by decide +kernel
theorem d_Ck_arrive_123 : decode b_Ck_arrive 123 = .ok (.aload 5, 2) := by decide +kernel
theorem d_Ck_arrive_125 : decode b_Ck_arrive 125 = .ok (.iload_n 3, 1) := by decide +kernel
theorem d_Ck_arrive_126 : decode b_Ck_arrive 126 = .ok (.iconst 1, 1) := by decide +kernel
theorem d_Ck_arrive_127 : decode b_Ck_arrive 127 = .ok (.iadd, 1) := by decide +kernel
theorem d_Ck_arrive_128 : decode b_Ck_arrive 128 = .ok (.iload 6, 2) := by decide +kernel
theorem d_Ck_arrive_130 : decode b_Ck_arrive 130 = .ok (.iadd, 1) := by decide +kernel
theorem d_Ck_arrive_131 : decode b_Ck_arrive 131 = .ok (.iaload, 1) := by decide +kernel
theorem d_Ck_arrive_132 : decode b_Ck_arrive 132 = .ok (.putfield 56, 3) := by decide +kernel
theorem d_Ck_arrive_135 : decode b_Ck_arrive 135 = .ok (.iconst 0, 1) := by decide +kernel
theorem d_Ck_arrive_136 : decode b_Ck_arrive 136 = .ok (.istore 7, 2) := by decide +kernel
theorem d_Ck_arrive_138 : decode b_Ck_arrive 138 = .ok (.iload 7, 2) := by decide +kernel
theorem d_Ck_arrive_140 : decode b_Ck_arrive 140 = .ok (.aload_n 0, 1) := by decide +kernel
theorem d_Ck_arrive_141 : decode b_Ck_arrive 141 = .ok (.getfield 56, 3) := by decide +kernel
theorem d_Ck_arrive_144 : decode b_Ck_arrive 144 = .ok (.if_icmp .ge 31, 3) := by decide +kernel
theorem d_Ck_arrive_147 : decode b_Ck_arrive 147 = .ok (.aload_n 0, 1) := by decide +kernel
theorem d_Ck_arrive_148 : decode b_Ck_arrive 148 = .ok (.getfield 52, 3) := by decide +kernel
theorem d_Ck_arrive_151 : decode b_Ck_arrive 151 = .ok (.bipush 20, 2) := by decide +kernel
theorem d_Ck_arrive_153 : decode b_Ck_arrive 153 = .ok (.iload 7, 2) := by decide +kernel
theorem d_Ck_arrive_155 : decode b_Ck_arrive 155 = .ok (.iadd, 1) := by decide +kernel
theorem d_Ck_arrive_156 : decode b_Ck_arrive 156 = .ok (.aload 5, 2) := by decide +kernel
theorem d_Ck_arrive_158 : decode b_Ck_arrive 158 = .ok (.iload_n 3, 1) := by decide +kernel
theorem d_Ck_arrive_159 : decode b_Ck_arrive 159 = .ok (.iconst 2, 1) := by decide +kernel
theorem d_Ck_arrive_160 : decode b_Ck_arrive 160 = .ok (.iadd, 1) := by decide +kernel
theorem d_Ck_arrive_161 : decode b_Ck_arrive 161 = .ok (.iload 6, 2) := by decide +kernel
theorem d_Ck_arrive_163 : decode b_Ck_arrive 163 = .ok (.iadd, 1) := by decide +kernel
theorem d_Ck_arrive_164 : decode b_Ck_arrive 164 = .ok (.iload 7, 2) := by decide +kernel
theorem d_Ck_arrive_166 : decode b_Ck_arrive 166 = .ok (.iadd, 1) := by decide +kernel
theorem d_Ck_arrive_167 : decode b_Ck_arrive 167 = .ok (.iaload, 1) := by decide +kernel
theorem d_Ck_arrive_168 : decode b_Ck_arrive 168 = .ok (.iastore, 1) := by decide +kernel
theorem d_Ck_arrive_169 : decode b_Ck_arrive 169 = .ok (.iinc 7 1, 3) := by decide +kernel
theorem d_Ck_arrive_172 : decode b_Ck_arrive 172 = .ok (.goto (-34), 3) := by decide +kernel
theorem d_Ck_arrive_175 : decode b_Ck_arrive 175 = .ok (.iconst 0, 1) := by decide +kernel
theorem d_Ck_arrive_176 : decode b_Ck_arrive 176 = .ok (.ireturn, 1) := by decide +kernel
abbrev ru_Ck_arrive : Room := { frames := 2, cells := 0, slots := 0, locals := 59 }
def wb_Ck_arrive_138 (y : Ly) (Post : St → Int32 → Prop) (K_138 : St → Int32 → Nat → Nat → Int32 → Int32 → Prop) (a0 : Nat) (s_h138 : St) (x3h138 : Int32) (x5h138 : Nat) (x5h138k : Nat) (x6h138 : Int32) (x7h138 : Int32) : Prop := (kd (cl x5h138) x5h138k = 2 ∧ tyx (cl x5h138) x5h138k = 0) ∧ (((sV s_h138 a0 16) ≤ x7h138 → Post s_h138 0) ∧ (¬ ((sV s_h138 a0 16) ≤ x7h138) → xA y s_h138 x5h138 x5h138k (((x3h138 + 2) + x6h138) + x7h138) (fun x_9 : Int32 => xS y s_h138 a0 15 (20 + x7h138) x_9 (fun s_10 : St => K_138 s_10 x3h138 x5h138 x5h138k x6h138 (x7h138 + 1)))))
def wl_Ck_arrive_138 (y : Ly) (Post : St → Int32 → Prop) (a0 : Nat) (s_h138 : St) (x3h138 : Int32) (x5h138 : Nat) (x5h138k : Nat) (x6h138 : Int32) (x7h138 : Int32) : Prop := ∃ (I : St → Int32 → Nat → Nat → Int32 → Int32 → Prop) (μ : St → Int32 → Nat → Nat → Int32 → Int32 → Nat), I s_h138 x3h138 x5h138 x5h138k x6h138 x7h138 ∧ ∀ (u : St) (t0 : Int32) (t1 : Nat) (t2 : Nat) (t3 : Int32) (t4 : Int32), I u t0 t1 t2 t3 t4 → wb_Ck_arrive_138 y Post (fun z t0q t1q t2q t3q t4q => I z t0q t1q t2q t3q t4q ∧ μ z t0q t1q t2q t3q t4q < μ u t0 t1 t2 t3 t4) a0 u t0 t1 t2 t3 t4
def wj_Ck_arrive_115 (y : Ly) (Post : St → Int32 → Prop) (K_80 : St → Int32 → Nat → Nat → Int32 → Int32 → Prop) (a0 : Nat) (s_j115 : St) (x3j115 : Int32) (x5j115 : Nat) (x5j115k : Nat) (x6j115 : Int32) (x7j115 : Int32) (z1j115 : Int32) (z2j115 : Int32) : Prop := (kd (cl x5j115) x5j115k = 2 ∧ tyx (cl x5j115) x5j115k = 0) ∧ xS y s_j115 a0 15 z1j115 z2j115 (fun s_11 : St => K_80 s_11 x3j115 x5j115 x5j115k x6j115 (x7j115 + 1))
def wb_Ck_arrive_80 (y : Ly) (Post : St → Int32 → Prop) (K_80 : St → Int32 → Nat → Nat → Int32 → Int32 → Prop) (a0 : Nat) (s_h80 : St) (x3h80 : Int32) (x5h80 : Nat) (x5h80k : Nat) (x6h80 : Int32) (x7h80 : Int32) : Prop := (kd (cl x5h80) x5h80k = 2 ∧ tyx (cl x5h80) x5h80k = 0) ∧ (((sV s_h80 a0 7) ≤ x7h80 → xA y s_h80 x5h80 x5h80k ((x3h80 + 1) + x6h80) (fun x_7 : Int32 => xP (uV s_h80 a0 16 x_7) (fun s_8 : St => wl_Ck_arrive_138 y Post a0 s_8 x3h80 x5h80 x5h80k x6h80 0))) ∧ (¬ ((sV s_h80 a0 7) ≤ x7h80) → ((x6h80 ≤ x7h80 → wj_Ck_arrive_115 y Post K_80 a0 s_h80 x3h80 x5h80 x5h80k x6h80 x7h80 x7h80 3) ∧ (¬ (x6h80 ≤ x7h80) → xA y s_h80 x5h80 x5h80k ((x3h80 + 1) + x7h80) (fun x_12 : Int32 => wj_Ck_arrive_115 y Post K_80 a0 s_h80 x3h80 x5h80 x5h80k x6h80 x7h80 x7h80 x_12)))))
def wl_Ck_arrive_80 (y : Ly) (Post : St → Int32 → Prop) (a0 : Nat) (s_h80 : St) (x3h80 : Int32) (x5h80 : Nat) (x5h80k : Nat) (x6h80 : Int32) (x7h80 : Int32) : Prop := ∃ (I : St → Int32 → Nat → Nat → Int32 → Int32 → Prop) (μ : St → Int32 → Nat → Nat → Int32 → Int32 → Nat), I s_h80 x3h80 x5h80 x5h80k x6h80 x7h80 ∧ ∀ (u : St) (t0 : Int32) (t1 : Nat) (t2 : Nat) (t3 : Int32) (t4 : Int32), I u t0 t1 t2 t3 t4 → wb_Ck_arrive_80 y Post (fun z t0q t1q t2q t3q t4q => I z t0q t1q t2q t3q t4q ∧ μ z t0q t1q t2q t3q t4q < μ u t0 t1 t2 t3 t4) a0 u t0 t1 t2 t3 t4
def wj_Ck_arrive_49 (y : Ly) (Post : St → Int32 → Prop) (a0 : Nat) (s_j49 : St) (x3j49 : Int32) (z0j49 : Int32) : Prop := ((z0j49 = 0 → ∃ b_3 : Nat, sO s_j49 a0 3 = some b_3 ∧ cl b_3 = 9 ∧ xA y s_j49 (lk b_3 12) 0 x3j49 (fun x_6 : Int32 => wl_Ck_arrive_80 y Post a0 s_j49 x3j49 (lk b_3 12) 0 x_6 0)) ∧ (¬ (z0j49 = 0) → Post s_j49 z0j49))
def wj_Ck_arrive_20 (y : Ly) (Post : St → Int32 → Prop) (a0 : Nat) (s_j20 : St) (z0j20 : Int32) : Prop := Post s_j20 z0j20
def wu_Ck_arrive (y : Ly) (Post : St → Int32 → Prop) (σ : St) (a0 : Nat) (v1 : Int32) (v2 : Int32) : Prop := wu_Ck_operand y (fun (s_2 : St) (r_1 : Int32) => ((0 ≤ r_1 → ((v2 = 0 → wu_Ck_frameWrong y (fun (s_14 : St) (r_13 : Int32) => ((r_13 = 0 → wj_Ck_arrive_49 y Post a0 s_14 r_1 0) ∧ (¬ (r_13 = 0) → wj_Ck_arrive_49 y Post a0 s_14 r_1 38))) s_2 a0 r_1) ∧ (¬ (v2 = 0) → wu_Ck_stateFits y (fun (s_16 : St) (r_15 : Int32) => wj_Ck_arrive_49 y Post a0 s_16 r_1 r_15) s_2 a0 v1 (-2147483648)))) ∧ (¬ (0 ≤ r_1) → ((v2 = 0 → wj_Ck_arrive_20 y Post a0 s_2 36) ∧ (¬ (v2 = 0) → wj_Ck_arrive_20 y Post a0 s_2 0))))) σ a0 4
set_option maxHeartbeats 4000000 in
set_option maxRecDepth 100000 in
theorem cu_Ck_arrive (l : Launch) (D : va_G) (g : Nat → ClassId) (ad : Nat → Nat) (y : Ly) (Post : St → Int32 → Prop) (σ : St) (a0 : Nat) (v1 : Int32) (v2 : Int32) (sz : Nat) (h_a0 : cl a0 = 0) (h : wu_Ck_arrive y Post σ a0 v1 v2) : Met l y_Ck_arrive (mw y_Ck_arrive b_Ck_arrive 8 (some .int)) ru_Ck_arrive (PC g D [] [.ref (ad a0), .int v1, .int v2] sz (ws g ad y σ)) (va_Qi (fun (r : Int32) (u : St) => Post u r) (QW D (va_A (ws g ad y σ) sz) (fun u => ws g ad y u)) (va_A (ws g ad y σ) sz)) 0 0 (va_A (ws g ad y σ) sz) := by
  refine ofI (by decide +kernel) (Nat.le_of_ble_eq_true rfl) ?_
  intro p e s m args below meth c A Q ls H locs G hsz hP hD hS hl hret
  subst hsz
  have hl : lv_has ls 8 [(0, .ref (ad a0)), (1, .int v1), (2, .int v2)] := hl
  unfold wu_Ck_arrive at h
  refine lv_aload_n G.1 G.2.1 d_Ck_arrive_0 rfl (lv_at hl 0 rfl) ?_
  refine lv_iconst (v := 4) G.1 G.2.1 d_Ck_arrive_1 (by decide) ?_
  refine ucVi (As := [.int 4]) (rest := []) G hP hD hS (cu_Ck_operand l D g ad y _ σ a0 4 H.size h_a0 h) w9_Ck_operand q1607 ⟨Nat.le_of_ble_eq_true rfl, Nat.le_of_ble_eq_true rfl⟩ rfl rfl h_a0 (q := (RCk, TCk, 22)) rfl rfl hl.1 rfl (Nat.le_of_ble_eq_true rfl) rfl ⟨Nat.le_refl _, Nat.le_refl _⟩ d_Ck_arrive_2 (fun r_1 s_2 H locs h hP hD hS => ?_)
  refine lv_istore_n (lv' := [(3, .int r_1), (0, .ref (ad a0)), (1, .int v1), (2, .int v2)]) G.1 G.2.1 d_Ck_arrive_5 rfl hl (by decide) rfl (fun ls hl => ?_)
  refine lv_iload_n G.1 G.2.1 d_Ck_arrive_6 rfl (lv_at hl 0 rfl) ?_
  refine lv_if_ge (tgt := 21) G.1 G.2.1 d_Ck_arrive_7 (by decide) (fun c7 => ?_) (fun c7 => ?_)
  · skip
    have h := h.1 c7
    refine lv_iload_n G.1 G.2.1 d_Ck_arrive_21 rfl (lv_at hl 3 rfl) ?_
    have J_49 : ∀ (s_j49 : St) (x3j49 : Int32) (z0j49 : Int32) (H : Heap) (locs : List Loc), wj_Ck_arrive_49 y Post a0 s_j49 x3j49 z0j49 → va_P D CL (ws g ad y s_j49) H → va_D A (ws g ad y s_j49) → va_S A s.heap H locs → ∀ ls, lv_has ls 8 [(0, .ref (ad a0)), (3, .int x3j49)] → W p l e ru_Ck_arrive s m args below meth c H locs 0 0 Q (F0 m 49 ls [.int z0j49]) := by
      intro s_j49 x3j49 z0j49 H locs h hP hD hS ls hl
      unfold wj_Ck_arrive_49 at h
      refine lv_istore (lv' := [(4, .int z0j49), (0, .ref (ad a0)), (3, .int x3j49)]) G.1 G.2.1 d_Ck_arrive_49 hl (by decide) rfl (fun ls hl => ?_)
      refine lv_iload G.1 G.2.1 d_Ck_arrive_51 (lv_at hl 0 rfl) ?_
      refine lv_if_eq (tgt := 59) G.1 G.2.1 d_Ck_arrive_53 (by decide) (fun c53 => ?_) (fun c53 => ?_)
      · skip
        have h := h.1 c53
        refine lv_aload_n G.1 G.2.1 d_Ck_arrive_59 rfl (lv_at hl 1 rfl) ?_
        obtain ⟨b_3, e_4, c_5, h⟩ := h
        refine ugf (v := .ref (ad b_3)) G hP h_a0 iCk rfl 3 (by decide) rfl q654 rfl (by show va_rf ((sO s_j49 a0 3).map ad) = _; rw [e_4]; rfl) d_Ck_arrive_60 ?_
        refine ugf (v := .ref (ad (lk b_3 12))) G hP c_5 iWd rfl 12 (by decide) rfl q854 rfl rfl d_Ck_arrive_63 ?_
        refine ugf (v := .ref (yP y (lk b_3 12) 0)) G hP (lk_9_12 c_5) iIn rfl 0 (by decide) rfl q380 rfl rfl d_Ck_arrive_66 ?_
        refine lv_astore (lv' := [(5, .ref (yP y (lk b_3 12) 0)), (4, .int z0j49), (0, .ref (ad a0)), (3, .int x3j49)]) G.1 G.2.1 d_Ck_arrive_69 hl (by decide) rfl (fun ls hl => ?_)
        refine lv_aload G.1 G.2.1 d_Ck_arrive_71 (lv_at hl 0 rfl) ?_
        refine lv_iload_n G.1 G.2.1 d_Ck_arrive_73 rfl (lv_at hl 3 rfl) ?_
        refine uiald G hP (kdp (lk_9_12 c_5) rfl) (typ (lk_9_12 c_5) rfl) h d_Ck_arrive_74 (fun x_6 h => ?_)
        refine W.eq (g2 := F0 m 75 ls [.int x_6]) rfl ?_
        refine lv_istore (lv' := [(6, .int x_6), (5, .ref (yP y (lk b_3 12) 0)), (4, .int z0j49), (0, .ref (ad a0)), (3, .int x3j49)]) G.1 G.2.1 d_Ck_arrive_75 hl (by decide) rfl (fun ls hl => ?_)
        refine lv_iconst (v := 0) G.1 G.2.1 d_Ck_arrive_77 (by decide) ?_
        refine lv_istore (lv' := [(7, .int 0), (6, .int x_6), (5, .ref (yP y (lk b_3 12) 0)), (4, .int z0j49), (0, .ref (ad a0)), (3, .int x3j49)]) G.1 G.2.1 d_Ck_arrive_78 hl (by decide) rfl (fun ls hl => ?_)
        unfold wl_Ck_arrive_80 at h
        obtain ⟨I_80, μ_80, hI_80, hB_80⟩ := h
        have L_80 : ∀ (n_80 : Nat) (s_h80 : St) (x3h80 : Int32) (x5h80 : Nat) (x5h80k : Nat) (x6h80 : Int32) (x7h80 : Int32), μ_80 s_h80 x3h80 x5h80 x5h80k x6h80 x7h80 < n_80 → I_80 s_h80 x3h80 x5h80 x5h80k x6h80 x7h80 → ∀ (H : Heap) (locs : List Loc), va_P D CL (ws g ad y s_h80) H → va_D A (ws g ad y s_h80) → va_S A s.heap H locs → ∀ ls, lv_has ls 8 [(0, .ref (ad a0)), (3, .int x3h80), (5, .ref (yP y x5h80 x5h80k)), (6, .int x6h80), (7, .int x7h80)] → W p l e ru_Ck_arrive s m args below meth c H locs 0 0 Q (F0 m 80 ls []) := by
          intro n_80
          induction n_80 with
          | zero => intro s_h80 x3h80 x5h80 x5h80k x6h80 x7h80 hμ; exact absurd hμ (Nat.not_lt_zero _)
          | succ n_80 ih_80 =>
            intro s_h80 x3h80 x5h80 x5h80k x6h80 x7h80 hμ_80 hJ H locs hP hD hS ls hl
            obtain ⟨K_80, hK_80, h⟩ : ∃ K : St → Int32 → Nat → Nat → Int32 → Int32 → Prop, (∀ z (t0 : Int32) (t1 : Nat) (t2 : Nat) (t3 : Int32) (t4 : Int32), K z t0 t1 t2 t3 t4 → I_80 z t0 t1 t2 t3 t4 ∧ μ_80 z t0 t1 t2 t3 t4 < μ_80 s_h80 x3h80 x5h80 x5h80k x6h80 x7h80) ∧ wb_Ck_arrive_80 y Post K a0 s_h80 x3h80 x5h80 x5h80k x6h80 x7h80 := ⟨_, fun _ _ _ _ _ _ h => h, hB_80 s_h80 x3h80 x5h80 x5h80k x6h80 x7h80 hJ⟩
            unfold wb_Ck_arrive_80 at h
            obtain ⟨c_x5h80, h⟩ := h
            refine lv_iload G.1 G.2.1 d_Ck_arrive_80 (lv_at hl 4 rfl) ?_
            refine lv_aload_n G.1 G.2.1 d_Ck_arrive_82 rfl (lv_at hl 0 rfl) ?_
            refine ugf (v := .int (sV s_h80 a0 7)) G hP h_a0 iCk rfl 7 (by decide) rfl q658 rfl rfl d_Ck_arrive_83 ?_
            refine lv_icmp_ge (tgt := 122) G.1 G.2.1 d_Ck_arrive_86 (by decide) (fun c86 => ?_) (fun c86 => ?_)
            · skip
              have h := h.1 c86
              refine lv_aload_n G.1 G.2.1 d_Ck_arrive_122 rfl (lv_at hl 0 rfl) ?_
              refine lv_aload G.1 G.2.1 d_Ck_arrive_123 (lv_at hl 2 rfl) ?_
              refine lv_iload_n G.1 G.2.1 d_Ck_arrive_125 rfl (lv_at hl 1 rfl) ?_
              refine lv_iconst (v := 1) G.1 G.2.1 d_Ck_arrive_126 (by decide) ?_
              refine lv_iadd G.1 G.2.1 d_Ck_arrive_127 ?_
              refine lv_iload G.1 G.2.1 d_Ck_arrive_128 (lv_at hl 3 rfl) ?_
              refine lv_iadd G.1 G.2.1 d_Ck_arrive_130 ?_
              refine W.eq (g2 := F0 m 131 ls [.int ((x3h80 + 1) + x6h80), .ref (yP y x5h80 x5h80k), .ref (ad a0)]) rfl ?_
              refine uiald G hP c_x5h80.1 c_x5h80.2 h d_Ck_arrive_131 (fun x_7 h => ?_)
              refine upf G hP hD hS h 16 putV h_a0 iCk tCk tCk_ok nCk rfl (by decide) rfl q667 rfl rfl fV rfl rfl d_Ck_arrive_132 (fun s_8 H locs h hP hD hS => ?_)
              refine lv_iconst (v := 0) G.1 G.2.1 d_Ck_arrive_135 (by decide) ?_
              refine lv_istore (lv' := [(7, .int 0), (0, .ref (ad a0)), (3, .int x3h80), (5, .ref (yP y x5h80 x5h80k)), (6, .int x6h80)]) G.1 G.2.1 d_Ck_arrive_136 hl (by decide) rfl (fun ls hl => ?_)
              unfold wl_Ck_arrive_138 at h
              obtain ⟨I_138, μ_138, hI_138, hB_138⟩ := h
              have L_138 : ∀ (n_138 : Nat) (s_h138 : St) (x3h138 : Int32) (x5h138 : Nat) (x5h138k : Nat) (x6h138 : Int32) (x7h138 : Int32), μ_138 s_h138 x3h138 x5h138 x5h138k x6h138 x7h138 < n_138 → I_138 s_h138 x3h138 x5h138 x5h138k x6h138 x7h138 → ∀ (H : Heap) (locs : List Loc), va_P D CL (ws g ad y s_h138) H → va_D A (ws g ad y s_h138) → va_S A s.heap H locs → ∀ ls, lv_has ls 8 [(0, .ref (ad a0)), (3, .int x3h138), (5, .ref (yP y x5h138 x5h138k)), (6, .int x6h138), (7, .int x7h138)] → W p l e ru_Ck_arrive s m args below meth c H locs 0 0 Q (F0 m 138 ls []) := by
                intro n_138
                induction n_138 with
                | zero => intro s_h138 x3h138 x5h138 x5h138k x6h138 x7h138 hμ; exact absurd hμ (Nat.not_lt_zero _)
                | succ n_138 ih_138 =>
                  intro s_h138 x3h138 x5h138 x5h138k x6h138 x7h138 hμ_138 hJ H locs hP hD hS ls hl
                  obtain ⟨K_138, hK_138, h⟩ : ∃ K : St → Int32 → Nat → Nat → Int32 → Int32 → Prop, (∀ z (t0 : Int32) (t1 : Nat) (t2 : Nat) (t3 : Int32) (t4 : Int32), K z t0 t1 t2 t3 t4 → I_138 z t0 t1 t2 t3 t4 ∧ μ_138 z t0 t1 t2 t3 t4 < μ_138 s_h138 x3h138 x5h138 x5h138k x6h138 x7h138) ∧ wb_Ck_arrive_138 y Post K a0 s_h138 x3h138 x5h138 x5h138k x6h138 x7h138 := ⟨_, fun _ _ _ _ _ _ h => h, hB_138 s_h138 x3h138 x5h138 x5h138k x6h138 x7h138 hJ⟩
                  unfold wb_Ck_arrive_138 at h
                  obtain ⟨c_x5h138, h⟩ := h
                  refine lv_iload G.1 G.2.1 d_Ck_arrive_138 (lv_at hl 4 rfl) ?_
                  refine lv_aload_n G.1 G.2.1 d_Ck_arrive_140 rfl (lv_at hl 0 rfl) ?_
                  refine ugf (v := .int (sV s_h138 a0 16)) G hP h_a0 iCk rfl 16 (by decide) rfl q667 rfl rfl d_Ck_arrive_141 ?_
                  refine lv_icmp_ge (tgt := 175) G.1 G.2.1 d_Ck_arrive_144 (by decide) (fun c144 => ?_) (fun c144 => ?_)
                  · skip
                    have h := h.1 c144
                    refine lv_iconst (v := 0) G.1 G.2.1 d_Ck_arrive_175 (by decide) ?_
                    exact hret _ _ _ _ _ _ _ ls h hP hD hS (Nat.le_refl _) (Nat.le_refl _) d_Ck_arrive_176
                  · skip
                    have h := h.2 c144
                    refine lv_aload_n G.1 G.2.1 d_Ck_arrive_147 rfl (lv_at hl 0 rfl) ?_
                    refine ugf (v := .ref (yP y a0 15)) G hP h_a0 iCk rfl 15 (by decide) rfl q666 rfl rfl d_Ck_arrive_148 ?_
                    refine lv_bipush (v := 20) G.1 G.2.1 d_Ck_arrive_151 (by decide) ?_
                    refine lv_iload G.1 G.2.1 d_Ck_arrive_153 (lv_at hl 4 rfl) ?_
                    refine lv_iadd G.1 G.2.1 d_Ck_arrive_155 ?_
                    refine lv_aload G.1 G.2.1 d_Ck_arrive_156 (lv_at hl 2 rfl) ?_
                    refine lv_iload_n G.1 G.2.1 d_Ck_arrive_158 rfl (lv_at hl 1 rfl) ?_
                    refine W.eq (g2 := F0 m 159 ls [.int x3h138, .ref (yP y x5h138 x5h138k), .int (20 + x7h138), .ref (yP y a0 15)]) rfl ?_
                    refine lv_iconst (v := 2) G.1 G.2.1 d_Ck_arrive_159 (by decide) ?_
                    refine lv_iadd G.1 G.2.1 d_Ck_arrive_160 ?_
                    refine lv_iload G.1 G.2.1 d_Ck_arrive_161 (lv_at hl 3 rfl) ?_
                    refine lv_iadd G.1 G.2.1 d_Ck_arrive_163 ?_
                    refine lv_iload G.1 G.2.1 d_Ck_arrive_164 (lv_at hl 4 rfl) ?_
                    refine lv_iadd G.1 G.2.1 d_Ck_arrive_166 ?_
                    refine uiald G hP c_x5h138.1 c_x5h138.2 h d_Ck_arrive_167 (fun x_9 h => ?_)
                    refine uiast G hP hD hS (kdp h_a0 rfl) (typ h_a0 rfl) h d_Ck_arrive_168 (fun s_10 H locs h hP hD hS => ?_)
                    refine lv_iinc (v := x7h138 + 1) (lv' := [(7, .int (x7h138 + 1)), (0, .ref (ad a0)), (3, .int x3h138), (5, .ref (yP y x5h138 x5h138k)), (6, .int x6h138)]) G.1 G.2.1 d_Ck_arrive_169 hl (k := 4) rfl rfl (by decide) rfl (fun ls hl => ?_)
                    refine lv_goto (tgt := 138) G.1 G.2.1 d_Ck_arrive_172 (by decide) ?_
                    have h := hK_138 s_10 x3h138 x5h138 x5h138k x6h138 (x7h138 + 1) h
                    exact ih_138 s_10 x3h138 x5h138 x5h138k x6h138 (x7h138 + 1) (Nat.lt_of_lt_of_le h.2 (Nat.le_of_lt_succ hμ_138)) h.1 H locs hP hD hS ls (lv_sub hl [1, 2, 3, 4, 0] rfl)
              exact L_138 _ s_8 x3h80 x5h80 x5h80k x6h80 0 (Nat.lt_succ_self _) hI_138 H locs hP hD hS ls (lv_sub hl [1, 2, 3, 4, 0] rfl)
            · skip
              have h := h.2 c86
              refine lv_aload_n G.1 G.2.1 d_Ck_arrive_89 rfl (lv_at hl 0 rfl) ?_
              refine ugf (v := .ref (yP y a0 15)) G hP h_a0 iCk rfl 15 (by decide) rfl q666 rfl rfl d_Ck_arrive_90 ?_
              refine lv_iload G.1 G.2.1 d_Ck_arrive_93 (lv_at hl 4 rfl) ?_
              refine lv_iload G.1 G.2.1 d_Ck_arrive_95 (lv_at hl 4 rfl) ?_
              refine lv_iload G.1 G.2.1 d_Ck_arrive_97 (lv_at hl 3 rfl) ?_
              have J_115 : ∀ (s_j115 : St) (x3j115 : Int32) (x5j115 : Nat) (x5j115k : Nat) (x6j115 : Int32) (x7j115 : Int32) (z1j115 : Int32) (z2j115 : Int32) (H : Heap) (locs : List Loc), wj_Ck_arrive_115 y Post K_80 a0 s_j115 x3j115 x5j115 x5j115k x6j115 x7j115 z1j115 z2j115 → va_P D CL (ws g ad y s_j115) H → va_D A (ws g ad y s_j115) → va_S A s.heap H locs → ∀ ls, lv_has ls 8 [(0, .ref (ad a0)), (3, .int x3j115), (5, .ref (yP y x5j115 x5j115k)), (6, .int x6j115), (7, .int x7j115)] → W p l e ru_Ck_arrive s m args below meth c H locs 0 0 Q (F0 m 115 ls [.int z2j115, .int z1j115, .ref (yP y a0 15)]) := by
                intro s_j115 x3j115 x5j115 x5j115k x6j115 x7j115 z1j115 z2j115 H locs h hP hD hS ls hl
                unfold wj_Ck_arrive_115 at h
                obtain ⟨c_x5j115, h⟩ := h
                refine uiast G hP hD hS (kdp h_a0 rfl) (typ h_a0 rfl) h d_Ck_arrive_115 (fun s_11 H locs h hP hD hS => ?_)
                refine lv_iinc (v := x7j115 + 1) (lv' := [(7, .int (x7j115 + 1)), (0, .ref (ad a0)), (3, .int x3j115), (5, .ref (yP y x5j115 x5j115k)), (6, .int x6j115)]) G.1 G.2.1 d_Ck_arrive_116 hl (k := 4) rfl rfl (by decide) rfl (fun ls hl => ?_)
                refine lv_goto (tgt := 80) G.1 G.2.1 d_Ck_arrive_119 (by decide) ?_
                have h := hK_80 s_11 x3j115 x5j115 x5j115k x6j115 (x7j115 + 1) h
                exact ih_80 s_11 x3j115 x5j115 x5j115k x6j115 (x7j115 + 1) (Nat.lt_of_lt_of_le h.2 (Nat.le_of_lt_succ hμ_80)) h.1 H locs hP hD hS ls (lv_sub hl [1, 2, 3, 4, 0] rfl)
              refine lv_icmp_ge (tgt := 114) G.1 G.2.1 d_Ck_arrive_99 (by decide) (fun c99 => ?_) (fun c99 => ?_)
              · skip
                have h := h.1 c99
                refine lv_iconst (v := 3) G.1 G.2.1 d_Ck_arrive_114 (by decide) ?_
                exact J_115 s_h80 x3h80 x5h80 x5h80k x6h80 x7h80 x7h80 3 H locs h hP hD hS ls (lv_sub hl [0, 1, 2, 3, 4] rfl)
              · skip
                have h := h.2 c99
                refine lv_aload G.1 G.2.1 d_Ck_arrive_102 (lv_at hl 2 rfl) ?_
                refine W.eq (g2 := F0 m 104 ls [.ref (yP y x5h80 x5h80k), .int x7h80, .ref (yP y a0 15)]) rfl ?_
                refine lv_iload_n G.1 G.2.1 d_Ck_arrive_104 rfl (lv_at hl 1 rfl) ?_
                refine lv_iconst (v := 1) G.1 G.2.1 d_Ck_arrive_105 (by decide) ?_
                refine lv_iadd G.1 G.2.1 d_Ck_arrive_106 ?_
                refine lv_iload G.1 G.2.1 d_Ck_arrive_107 (lv_at hl 4 rfl) ?_
                refine lv_iadd G.1 G.2.1 d_Ck_arrive_109 ?_
                refine uiald G hP c_x5h80.1 c_x5h80.2 h d_Ck_arrive_110 (fun x_12 h => ?_)
                refine lv_goto (tgt := 115) G.1 G.2.1 d_Ck_arrive_111 (by decide) ?_
                exact J_115 s_h80 x3h80 x5h80 x5h80k x6h80 x7h80 x7h80 x_12 H locs h hP hD hS ls (lv_sub hl [0, 1, 2, 3, 4] rfl)
        exact L_80 _ s_j49 x3j49 (lk b_3 12) 0 x_6 0 (Nat.lt_succ_self _) hI_80 H locs hP hD hS ls (lv_sub hl [4, 5, 2, 1, 0] rfl)
      · skip
        have h := h.2 c53
        refine lv_iload G.1 G.2.1 d_Ck_arrive_56 (lv_at hl 0 rfl) ?_
        exact hret _ _ _ _ _ _ _ ls h hP hD hS (Nat.le_refl _) (Nat.le_refl _) d_Ck_arrive_58
    refine lv_if_eq (tgt := 35) G.1 G.2.1 d_Ck_arrive_22 (by decide) (fun c22 => ?_) (fun c22 => ?_)
    · skip
      have h := h.1 c22
      refine lv_aload_n G.1 G.2.1 d_Ck_arrive_35 rfl (lv_at hl 1 rfl) ?_
      refine lv_iload_n G.1 G.2.1 d_Ck_arrive_36 rfl (lv_at hl 0 rfl) ?_
      refine ucVi (As := [.int r_1]) (rest := []) G hP hD hS (cu_Ck_frameWrong l D g ad y _ s_2 a0 r_1 H.size h_a0 h) w9_Ck_frameWrong q1616 ⟨Nat.le_of_ble_eq_true rfl, Nat.le_of_ble_eq_true rfl⟩ rfl rfl h_a0 (q := (RCk, TCk, 22)) rfl rfl hl.1 rfl (Nat.le_of_ble_eq_true rfl) rfl ⟨Nat.le_refl _, Nat.le_refl _⟩ d_Ck_arrive_37 (fun r_13 s_14 H locs h hP hD hS => ?_)
      refine W.eq (g2 := F0 m 40 ls [.int r_13]) rfl ?_
      refine lv_if_eq (tgt := 48) G.1 G.2.1 d_Ck_arrive_40 (by decide) (fun c40 => ?_) (fun c40 => ?_)
      · skip
        have h := h.1 c40
        refine lv_iconst (v := 0) G.1 G.2.1 d_Ck_arrive_48 (by decide) ?_
        exact J_49 s_14 r_1 0 H locs h hP hD hS ls (lv_sub hl [1, 0] rfl)
      · skip
        have h := h.2 c40
        refine lv_bipush (v := 38) G.1 G.2.1 d_Ck_arrive_43 (by decide) ?_
        refine lv_goto (tgt := 49) G.1 G.2.1 d_Ck_arrive_45 (by decide) ?_
        exact J_49 s_14 r_1 38 H locs h hP hD hS ls (lv_sub hl [1, 0] rfl)
    · skip
      have h := h.2 c22
      refine lv_aload_n G.1 G.2.1 d_Ck_arrive_25 rfl (lv_at hl 1 rfl) ?_
      refine lv_iload_n G.1 G.2.1 d_Ck_arrive_26 rfl (lv_at hl 2 rfl) ?_
      refine lv_ldc (v := (-2147483648)) G.1 G.2.1 G.2.2.2.2.2.2.1 (G.2.2.2.2.2.1 _ q1611) d_Ck_arrive_27 ?_
      refine W.eq (g2 := F0 m 29 ls [.int (-2147483648), .int v1, .ref (ad a0)]) rfl ?_
      refine ucVi (As := [.int v1, .int (-2147483648)]) (rest := []) G hP hD hS (cu_Ck_stateFits l D g ad y _ s_2 a0 v1 (-2147483648) H.size h_a0 h) w9_Ck_stateFits q1612 ⟨Nat.le_of_ble_eq_true rfl, Nat.le_of_ble_eq_true rfl⟩ rfl rfl h_a0 (q := (RCk, TCk, 22)) rfl rfl hl.1 rfl (Nat.le_of_ble_eq_true rfl) rfl ⟨Nat.le_refl _, Nat.le_refl _⟩ d_Ck_arrive_29 (fun r_15 s_16 H locs h hP hD hS => ?_)
      refine lv_goto (tgt := 49) G.1 G.2.1 d_Ck_arrive_32 (by decide) ?_
      exact J_49 s_16 r_1 r_15 H locs h hP hD hS ls (lv_sub hl [1, 0] rfl)
  · skip
    have h := h.2 c7
    refine lv_iload_n G.1 G.2.1 d_Ck_arrive_10 rfl (lv_at hl 3 rfl) ?_
    have J_20 : ∀ (s_j20 : St) (z0j20 : Int32) (H : Heap) (locs : List Loc), wj_Ck_arrive_20 y Post a0 s_j20 z0j20 → va_P D CL (ws g ad y s_j20) H → va_D A (ws g ad y s_j20) → va_S A s.heap H locs → ∀ ls, lv_has ls 8 [] → W p l e ru_Ck_arrive s m args below meth c H locs 0 0 Q (F0 m 20 ls [.int z0j20]) := by
      intro s_j20 z0j20 H locs h hP hD hS ls hl
      unfold wj_Ck_arrive_20 at h
      exact hret _ _ _ _ _ _ _ ls h hP hD hS (Nat.le_refl _) (Nat.le_refl _) d_Ck_arrive_20
    refine lv_if_eq (tgt := 18) G.1 G.2.1 d_Ck_arrive_11 (by decide) (fun c11 => ?_) (fun c11 => ?_)
    · skip
      have h := h.1 c11
      refine lv_bipush (v := 36) G.1 G.2.1 d_Ck_arrive_18 (by decide) ?_
      exact J_20 s_2 36 H locs h hP hD hS ls (lv_sub hl [] rfl)
    · skip
      have h := h.2 c11
      refine lv_iconst (v := 0) G.1 G.2.1 d_Ck_arrive_14 (by decide) ?_
      refine lv_goto (tgt := 20) G.1 G.2.1 d_Ck_arrive_15 (by decide) ?_
      exact J_20 s_2 0 H locs h hP hD hS ls (lv_sub hl [] rfl)
def y_Ck_keep : MethodName := ⟨"ClassWorks$Checker", "keep", "(I)V"⟩
abbrev b_Ck_keep : ByteArray := prog_2_method_6_code
theorem q669 : Cond.fieldLink "ClassWorks$Checker" 62 "ClassWorks$Checker" "known" "[I" ∈ lw_ok := lw_okmem (List.mem_of_getElem? (i := 669) (by decide +kernel)) rfl
theorem q1628 : Cond.methodLink "ClassWorks$Checker" 128 arraycopyName ∈ lw_ok := lw_okmem (List.mem_of_getElem? (i := 1628) (by decide +kernel)) rfl
theorem d_Ck_keep_0 : decode b_Ck_keep 0 = .ok (.aload_n 0, 1) := by decide +kernel
theorem d_Ck_keep_1 : decode b_Ck_keep 1 = .ok (.getfield 52, 3) := by decide +kernel
theorem d_Ck_keep_4 : decode b_Ck_keep 4 = .ok (.iconst 0, 1) := by decide +kernel
theorem d_Ck_keep_5 : decode b_Ck_keep 5 = .ok (.aload_n 0, 1) := by decide +kernel
theorem d_Ck_keep_6 : decode b_Ck_keep 6 = .ok (.getfield 62, 3) := by decide +kernel
theorem d_Ck_keep_9 : decode b_Ck_keep 9 = .ok (.iload_n 1, 1) := by decide +kernel
theorem d_Ck_keep_10 : decode b_Ck_keep 10 = .ok (.bipush 40, 2) := by decide +kernel
theorem d_Ck_keep_12 : decode b_Ck_keep 12 = .ok (.imul, 1) := by decide +kernel
theorem d_Ck_keep_13 : decode b_Ck_keep 13 = .ok (.bipush 40, 2) := by decide +kernel
theorem d_Ck_keep_15 : decode b_Ck_keep 15 = .ok (.invokestatic 128, 3) := by decide +kernel
theorem d_Ck_keep_18 : decode b_Ck_keep 18 = .ok (.aload_n 0, 1) := by decide +kernel
theorem d_Ck_keep_19 : decode b_Ck_keep 19 = .ok (.getfield 65, 3) := by decide +kernel
theorem d_Ck_keep_22 : decode b_Ck_keep 22 = .ok (.iload_n 1, 1) := by decide +kernel
theorem d_Ck_keep_23 : decode b_Ck_keep 23 = .ok (.aload_n 0, 1) := by decide +kernel
theorem d_Ck_keep_24 : decode b_Ck_keep 24 = .ok (.getfield 56, 3) := by decide +kernel
theorem d_Ck_keep_27 : decode b_Ck_keep 27 = .ok (.iastore, 1) := by decide +kernel
theorem d_Ck_keep_28 : decode b_Ck_keep 28 = .ok (.return_, 1) := by decide +kernel
abbrev ru_Ck_keep : Room := { frames := 1, cells := 0, slots := 0, locals := 120 }
def wu_Ck_keep (y : Ly) (Post : St → Prop) (σ : St) (a0 : Nat) (v1 : Int32) : Prop := xC y σ a0 15 a0 18 .int 0 (v1 * 40) 40 (fun s_1 : St => xS y s_1 a0 19 v1 (sV s_1 a0 16) (fun s_2 : St => Post s_2))
set_option maxHeartbeats 4000000 in
set_option maxRecDepth 100000 in
theorem cu_Ck_keep (l : Launch) (D : va_G) (g : Nat → ClassId) (ad : Nat → Nat) (y : Ly) (Post : St → Prop) (σ : St) (a0 : Nat) (v1 : Int32) (sz : Nat) (h_a0 : cl a0 = 0) (h : wu_Ck_keep y Post σ a0 v1) : Met l y_Ck_keep (mw y_Ck_keep b_Ck_keep 2 (none)) ru_Ck_keep (PC g D [] [.ref (ad a0), .int v1] sz (ws g ad y σ)) (va_Qv (fun u : St => Post u) (QW D (va_A (ws g ad y σ) sz) (fun u => ws g ad y u)) (va_A (ws g ad y σ) sz)) 0 0 (va_A (ws g ad y σ) sz) := by
  refine ofV (by decide +kernel) (Nat.le_of_ble_eq_true rfl) ?_
  intro p e s m args below meth c A Q ls H locs G hsz hP hD hS hl hret
  subst hsz
  have hl : lv_has ls 2 [(0, .ref (ad a0)), (1, .int v1)] := hl
  unfold wu_Ck_keep at h
  refine lv_aload_n G.1 G.2.1 d_Ck_keep_0 rfl (lv_at hl 0 rfl) ?_
  refine ugf (v := .ref (yP y a0 15)) G hP h_a0 iCk rfl 15 (by decide) rfl q666 rfl rfl d_Ck_keep_1 ?_
  refine lv_iconst (v := 0) G.1 G.2.1 d_Ck_keep_4 (by decide) ?_
  refine lv_aload_n G.1 G.2.1 d_Ck_keep_5 rfl (lv_at hl 0 rfl) ?_
  refine ugf (v := .ref (yP y a0 18)) G hP h_a0 iCk rfl 18 (by decide) rfl q669 rfl rfl d_Ck_keep_6 ?_
  refine lv_iload_n G.1 G.2.1 d_Ck_keep_9 rfl (lv_at hl 1 rfl) ?_
  refine lv_bipush (v := 40) G.1 G.2.1 d_Ck_keep_10 (by decide) ?_
  refine lv_imul G.1 G.2.1 d_Ck_keep_12 ?_
  refine lv_bipush (v := 40) G.1 G.2.1 d_Ck_keep_13 (by decide) ?_
  refine ucpy G hP hD hS (kdp h_a0 rfl) (typ h_a0 rfl) (kdp h_a0 rfl) (typ h_a0 rfl) rfl rfl h hl.1 q1628 q488 q487 q338 (Nat.le_of_ble_eq_true rfl) (Nat.le_of_ble_eq_true rfl) d_Ck_keep_15 (fun s_1 H locs h hP hD hS => ?_)
  refine lv_aload_n G.1 G.2.1 d_Ck_keep_18 rfl (lv_at hl 0 rfl) ?_
  refine W.eq (g2 := F0 m 19 ls [.ref (ad a0)]) rfl ?_
  refine ugf (v := .ref (yP y a0 19)) G hP h_a0 iCk rfl 19 (by decide) rfl q670 rfl rfl d_Ck_keep_19 ?_
  refine lv_iload_n G.1 G.2.1 d_Ck_keep_22 rfl (lv_at hl 1 rfl) ?_
  refine lv_aload_n G.1 G.2.1 d_Ck_keep_23 rfl (lv_at hl 0 rfl) ?_
  refine ugf (v := .int (sV s_1 a0 16)) G hP h_a0 iCk rfl 16 (by decide) rfl q667 rfl rfl d_Ck_keep_24 ?_
  refine uiast G hP hD hS (kdp h_a0 rfl) (typ h_a0 rfl) h d_Ck_keep_27 (fun s_2 H locs h hP hD hS => ?_)
  exact hret _ _ _ _ _ _ ls h hP hD hS (Nat.le_refl _) (Nat.le_refl _) d_Ck_keep_28
def y_Ck_handlersFit : MethodName := ⟨"ClassWorks$Checker", "handlersFit", "(I)I"⟩
abbrev b_Ck_handlersFit : ByteArray := prog_2_method_10_code
theorem q849 : Cond.fieldLink "ClassWorks$Checker" 186 "ClassWorks$World" "handlers" "LClassWorks$Ints;" ∈ lw_ok := lw_okmem (List.mem_of_getElem? (i := 849) (by decide +kernel)) rfl
theorem d_Ck_handlersFit_0 : decode b_Ck_handlersFit 0 = .ok (.aload_n 0, 1) := by decide +kernel
theorem d_Ck_handlersFit_1 : decode b_Ck_handlersFit 1 = .ok (.getfield 78, 3) := by decide +kernel
theorem d_Ck_handlersFit_4 : decode b_Ck_handlersFit 4 = .ok (.getfield 186, 3) := by decide +kernel
theorem d_Ck_handlersFit_7 : decode b_Ck_handlersFit 7 = .ok (.getfield 116, 3) := by decide +kernel
theorem d_Ck_handlersFit_10 : decode b_Ck_handlersFit 10 = .ok (.astore_n 2, 1) := by decide +kernel
theorem d_Ck_handlersFit_11 : decode b_Ck_handlersFit 11 = .ok (.aload_n 0, 1) := by decide +kernel
theorem d_Ck_handlersFit_12 : decode b_Ck_handlersFit 12 = .ok (.getfield 78, 3) := by decide +kernel
theorem d_Ck_handlersFit_15 : decode b_Ck_handlersFit 15 = .ok (.aload_n 0, 1) := by decide +kernel
theorem d_Ck_handlersFit_16 : decode b_Ck_handlersFit 16 = .ok (.getfield 18, 3) := by decide +kernel
theorem d_Ck_handlersFit_19 : decode b_Ck_handlersFit 19 = .ok (.aload_n 0, 1) := by decide +kernel
theorem d_Ck_handlersFit_20 : decode b_Ck_handlersFit 20 = .ok (.getfield 15, 3) := by decide +kernel
theorem d_Ck_handlersFit_23 : decode b_Ck_handlersFit 23 = .ok (.bipush 6, 2) := by decide +kernel
theorem d_Ck_handlersFit_25 : decode b_Ck_handlersFit 25 = .ok (.invokevirtual 82, 3) := by decide +kernel
theorem d_Ck_handlersFit_28 : decode b_Ck_handlersFit 28 = .ok (.istore_n 3, 1) := by decide +kernel
theorem d_Ck_handlersFit_29 : decode b_Ck_handlersFit 29 = .ok (.iload_n 3, 1) := by decide +kernel
theorem d_Ck_handlersFit_30 : decode b_Ck_handlersFit 30 = .ok (.aload_n 0, 1) := by decide +kernel
theorem d_Ck_handlersFit_31 : decode b_Ck_handlersFit 31 = .ok (.getfield 78, 3) := by decide +kernel
theorem d_Ck_handlersFit_34 : decode b_Ck_handlersFit 34 = .ok (.aload_n 0, 1) := by decide +kernel
theorem d_Ck_handlersFit_35 : decode b_Ck_handlersFit 35 = .ok (.getfield 18, 3) := by decide +kernel
theorem d_Ck_handlersFit_38 : decode b_Ck_handlersFit 38 = .ok (.aload_n 0, 1) := by decide +kernel
theorem d_Ck_handlersFit_39 : decode b_Ck_handlersFit 39 = .ok (.getfield 15, 3) := by decide +kernel
theorem d_Ck_handlersFit_42 : decode b_Ck_handlersFit 42 = .ok (.bipush 7, 2) := by decide +kernel
theorem d_Ck_handlersFit_44 : decode b_Ck_handlersFit 44 = .ok (.invokevirtual 82, 3) := by decide +kernel
theorem d_Ck_handlersFit_47 : decode b_Ck_handlersFit 47 = .ok (.iconst 4, 1) := by decide +kernel
theorem d_Ck_handlersFit_48 : decode b_Ck_handlersFit 48 = .ok (.imul, 1) := by decide +kernel
theorem d_Ck_handlersFit_49 : decode b_Ck_handlersFit 49 = .ok (.iadd, 1) := by decide +kernel
theorem d_Ck_handlersFit_50 : decode b_Ck_handlersFit 50 = .ok (.istore 4, 2) := by decide +kernel
theorem d_Ck_handlersFit_52 : decode b_Ck_handlersFit 52 = .ok (.iconst 0, 1) := by decide +kernel
theorem d_Ck_handlersFit_53 : decode b_Ck_handlersFit 53 = .ok (.istore 5, 2) := by decide +kernel
theorem d_Ck_handlersFit_55 : decode b_Ck_handlersFit 55 = .ok (.iload_n 3, 1) := by decide +kernel
theorem d_Ck_handlersFit_56 : decode b_Ck_handlersFit 56 = .ok (.istore 6, 2) := by decide +kernel
theorem d_Ck_handlersFit_58 : decode b_Ck_handlersFit 58 = .ok (.iload 6, 2) := by decide +kernel
theorem d_Ck_handlersFit_60 : decode b_Ck_handlersFit 60 = .ok (.iload 4, 2) := by decide +kernel
theorem d_Ck_handlersFit_62 : decode b_Ck_handlersFit 62 = .ok (.if_icmp .ge 66, 3) := by decide +kernel
theorem d_Ck_handlersFit_65 : decode b_Ck_handlersFit 65 = .ok (.iload 5, 2) := by decide +kernel
theorem d_Ck_handlersFit_67 : decode b_Ck_handlersFit 67 = .ok (.ifCond .ne 61, 3) := by decide +kernel
theorem d_Ck_handlersFit_70 : decode b_Ck_handlersFit 70 = .ok (.aload_n 2, 1) := by decide +kernel
theorem d_Ck_handlersFit_71 : decode b_Ck_handlersFit 71 = .ok (.iload 6, 2) := by decide +kernel
theorem d_Ck_handlersFit_73 : decode b_Ck_handlersFit 73 = .ok (.iaload, 1) := by decide +kernel
theorem d_Ck_handlersFit_74 : decode b_Ck_handlersFit 74 = .ok (.iload_n 1, 1) := by decide +kernel
theorem d_Ck_handlersFit_75 : decode b_Ck_handlersFit 75 = .ok (.if_icmp .gt 47, 3) := by decide +kernel
theorem d_Ck_handlersFit_78 : decode b_Ck_handlersFit 78 = .ok (.iload_n 1, 1) := by decide +kernel
theorem d_Ck_handlersFit_79 : decode b_Ck_handlersFit 79 = .ok (.aload_n 2, 1) := by decide +kernel
theorem d_Ck_handlersFit_80 : decode b_Ck_handlersFit 80 = .ok (.iload 6, 2) := by decide +kernel
theorem d_Ck_handlersFit_82 : decode b_Ck_handlersFit 82 = .ok (.iconst 1, 1) := by decide +kernel
theorem d_Ck_handlersFit_83 : decode b_Ck_handlersFit 83 = .ok (.iadd, 1) := by decide +kernel
theorem d_Ck_handlersFit_84 : decode b_Ck_handlersFit 84 = .ok (.iaload, 1) := by decide +kernel
theorem d_Ck_handlersFit_85 : decode b_Ck_handlersFit 85 = .ok (.if_icmp .ge 37, 3) := by decide +kernel
theorem d_Ck_handlersFit_88 : decode b_Ck_handlersFit 88 = .ok (.aload_n 2, 1) := by decide +kernel
theorem d_Ck_handlersFit_89 : decode b_Ck_handlersFit 89 = .ok (.iload 6, 2) := by decide +kernel
theorem d_Ck_handlersFit_91 : decode b_Ck_handlersFit 91 = .ok (.iconst 3, 1) := by decide +kernel
theorem d_Ck_handlersFit_92 : decode b_Ck_handlersFit 92 = .ok (.iadd, 1) := by decide +kernel
theorem d_Ck_handlersFit_93 : decode b_Ck_handlersFit 93 = .ok (.iaload, 1) := by decide +kernel
theorem d_Ck_handlersFit_94 : decode b_Ck_handlersFit 94 = .ok (.istore 7, 2) := by decide +kernel
theorem d_Ck_handlersFit_96 : decode b_Ck_handlersFit 96 = .ok (.aload_n 0, 1) := by decide +kernel
theorem d_Ck_handlersFit_97 : decode b_Ck_handlersFit 97 = .ok (.aload_n 2, 1) := by decide +kernel
theorem d_Ck_handlersFit_98 : decode b_Ck_handlersFit 98 = .ok (.iload 6, 2) := by decide +kernel
theorem d_Ck_handlersFit_100 : decode b_Ck_handlersFit 100 = .ok (.iconst 2, 1) := by decide +kernel
theorem d_Ck_handlersFit_101 : decode b_Ck_handlersFit 101 = .ok (.iadd, 1) := by decide +kernel
theorem d_Ck_handlersFit_102 : decode b_Ck_handlersFit 102 = .ok (.iaload, 1) := by decide +kernel
theorem d_Ck_handlersFit_103 : decode b_Ck_handlersFit 103 = .ok (.iload 7, 2) := by decide +kernel
theorem d_Ck_handlersFit_105 : decode b_Ck_handlersFit 105 = .ok (.bipush 6, 2) := by decide +kernel
theorem d_Ck_handlersFit_107 : decode b_Ck_handlersFit 107 = .ok (.if_icmp .ne 8, 3) := by decide +kernel
theorem d_Ck_handlersFit_110 : decode b_Ck_handlersFit 110 = .ok (.bipush 10, 2) := by decide +kernel
theorem d_Ck_handlersFit_112 : decode b_Ck_handlersFit 112 = .ok (.goto 5, 3) := by decide +kernel
theorem d_Ck_handlersFit_115 : decode b_Ck_handlersFit 115 = .ok (.iload 7, 2) := by decide +kernel
theorem d_Ck_handlersFit_117 : decode b_Ck_handlersFit 117 = .ok (.invokevirtual 176, 3) := by decide +kernel
theorem d_Ck_handlersFit_120 : decode b_Ck_handlersFit 120 = .ok (.istore 5, 2) := by decide +kernel
theorem d_Ck_handlersFit_122 : decode b_Ck_handlersFit 122 = .ok (.iinc 6 4, 3) := by decide +kernel
theorem d_Ck_handlersFit_125 : decode b_Ck_handlersFit 125 = .ok (.goto (-67), 3) := by decide +kernel
theorem d_Ck_handlersFit_128 : decode b_Ck_handlersFit 128 = .ok (.iload 5, 2) := by decide +kernel
theorem d_Ck_handlersFit_130 : decode b_Ck_handlersFit 130 = .ok (.ireturn, 1) := by decide +kernel
abbrev ru_Ck_handlersFit : Room := { frames := 2, cells := 0, slots := 0, locals := 59 }
def wj_Ck_handlersFit_128 (y : Ly) (Post : St → Int32 → Prop) (a0 : Nat) (s_j128 : St) (x5j128 : Int32) : Prop := Post s_j128 x5j128
def wj_Ck_handlersFit_122 (y : Ly) (Post : St → Int32 → Prop) (K_58 : St → Int32 → Nat → Nat → Int32 → Int32 → Int32 → Prop) (a0 : Nat) (s_j122 : St) (x1j122 : Int32) (x2j122 : Nat) (x2j122k : Nat) (x4j122 : Int32) (x5j122 : Int32) (x6j122 : Int32) : Prop := (kd (cl x2j122) x2j122k = 2 ∧ tyx (cl x2j122) x2j122k = 0) ∧ K_58 s_j122 x1j122 x2j122 x2j122k x4j122 x5j122 (x6j122 + 4)
def wj_Ck_handlersFit_117 (y : Ly) (Post : St → Int32 → Prop) (K_58 : St → Int32 → Nat → Nat → Int32 → Int32 → Int32 → Prop) (a0 : Nat) (s_j117 : St) (x1j117 : Int32) (x2j117 : Nat) (x2j117k : Nat) (x4j117 : Int32) (x6j117 : Int32) (z1j117 : Int32) (z2j117 : Int32) : Prop := (kd (cl x2j117) x2j117k = 2 ∧ tyx (cl x2j117) x2j117k = 0) ∧ wu_Ck_stateFits y (fun (s_19 : St) (r_18 : Int32) => wj_Ck_handlersFit_122 y Post K_58 a0 s_19 x1j117 x2j117 x2j117k x4j117 r_18 x6j117) s_j117 a0 z1j117 z2j117
def wb_Ck_handlersFit_58 (y : Ly) (Post : St → Int32 → Prop) (K_58 : St → Int32 → Nat → Nat → Int32 → Int32 → Int32 → Prop) (a0 : Nat) (s_h58 : St) (x1h58 : Int32) (x2h58 : Nat) (x2h58k : Nat) (x4h58 : Int32) (x5h58 : Int32) (x6h58 : Int32) : Prop := (kd (cl x2h58) x2h58k = 2 ∧ tyx (cl x2h58) x2h58k = 0) ∧ ((x4h58 ≤ x6h58 → wj_Ck_handlersFit_128 y Post a0 s_h58 x5h58) ∧ (¬ (x4h58 ≤ x6h58) → ((¬ x5h58 = 0 → wj_Ck_handlersFit_128 y Post a0 s_h58 x5h58) ∧ (x5h58 = 0 → xA y s_h58 x2h58 x2h58k x6h58 (fun x_14 : Int32 => ((x1h58 < x_14 → wj_Ck_handlersFit_122 y Post K_58 a0 s_h58 x1h58 x2h58 x2h58k x4h58 x5h58 x6h58) ∧ (¬ (x1h58 < x_14) → xA y s_h58 x2h58 x2h58k (x6h58 + 1) (fun x_15 : Int32 => ((x_15 ≤ x1h58 → wj_Ck_handlersFit_122 y Post K_58 a0 s_h58 x1h58 x2h58 x2h58k x4h58 x5h58 x6h58) ∧ (¬ (x_15 ≤ x1h58) → xA y s_h58 x2h58 x2h58k (x6h58 + 3) (fun x_16 : Int32 => xA y s_h58 x2h58 x2h58k (x6h58 + 2) (fun x_17 : Int32 => ((¬ x_16 = 6 → wj_Ck_handlersFit_117 y Post K_58 a0 s_h58 x1h58 x2h58 x2h58k x4h58 x6h58 x_17 x_16) ∧ (x_16 = 6 → wj_Ck_handlersFit_117 y Post K_58 a0 s_h58 x1h58 x2h58 x2h58k x4h58 x6h58 x_17 10))))))))))))))
def wl_Ck_handlersFit_58 (y : Ly) (Post : St → Int32 → Prop) (a0 : Nat) (s_h58 : St) (x1h58 : Int32) (x2h58 : Nat) (x2h58k : Nat) (x4h58 : Int32) (x5h58 : Int32) (x6h58 : Int32) : Prop := ∃ (I : St → Int32 → Nat → Nat → Int32 → Int32 → Int32 → Prop) (μ : St → Int32 → Nat → Nat → Int32 → Int32 → Int32 → Nat), I s_h58 x1h58 x2h58 x2h58k x4h58 x5h58 x6h58 ∧ ∀ (u : St) (t0 : Int32) (t1 : Nat) (t2 : Nat) (t3 : Int32) (t4 : Int32) (t5 : Int32), I u t0 t1 t2 t3 t4 t5 → wb_Ck_handlersFit_58 y Post (fun z t0q t1q t2q t3q t4q t5q => I z t0q t1q t2q t3q t4q t5q ∧ μ z t0q t1q t2q t3q t4q t5q < μ u t0 t1 t2 t3 t4 t5) a0 u t0 t1 t2 t3 t4 t5
def wu_Ck_handlersFit (y : Ly) (Post : St → Int32 → Prop) (σ : St) (a0 : Nat) (v1 : Int32) : Prop := ∃ b_1 : Nat, sO σ a0 3 = some b_1 ∧ cl b_1 = 9 ∧ ∃ b_4 : Nat, sO σ a0 3 = some b_4 ∧ cl b_4 = 9 ∧ wu_Wd_method y (fun (s_8 : St) (r_7 : Int32) => ∃ b_9 : Nat, sO s_8 a0 3 = some b_9 ∧ cl b_9 = 9 ∧ wu_Wd_method y (fun (s_13 : St) (r_12 : Int32) => wl_Ck_handlersFit_58 y Post a0 s_13 v1 (lk b_1 11) 0 (r_7 + (r_12 * 4)) 0 r_7) s_8 b_9 (sV s_8 a0 4) (sV s_8 a0 1) 7) σ b_4 (sV σ a0 4) (sV σ a0 1) 6
set_option maxHeartbeats 4000000 in
set_option maxRecDepth 100000 in
theorem cu_Ck_handlersFit (l : Launch) (D : va_G) (g : Nat → ClassId) (ad : Nat → Nat) (y : Ly) (Post : St → Int32 → Prop) (σ : St) (a0 : Nat) (v1 : Int32) (sz : Nat) (h_a0 : cl a0 = 0) (h : wu_Ck_handlersFit y Post σ a0 v1) : Met l y_Ck_handlersFit (mw y_Ck_handlersFit b_Ck_handlersFit 8 (some .int)) ru_Ck_handlersFit (PC g D [] [.ref (ad a0), .int v1] sz (ws g ad y σ)) (va_Qi (fun (r : Int32) (u : St) => Post u r) (QW D (va_A (ws g ad y σ) sz) (fun u => ws g ad y u)) (va_A (ws g ad y σ) sz)) 0 0 (va_A (ws g ad y σ) sz) := by
  refine ofI (by decide +kernel) (Nat.le_of_ble_eq_true rfl) ?_
  intro p e s m args below meth c A Q ls H locs G hsz hP hD hS hl hret
  subst hsz
  have hl : lv_has ls 8 [(0, .ref (ad a0)), (1, .int v1)] := hl
  unfold wu_Ck_handlersFit at h
  refine lv_aload_n G.1 G.2.1 d_Ck_handlersFit_0 rfl (lv_at hl 0 rfl) ?_
  obtain ⟨b_1, e_2, c_3, h⟩ := h
  refine ugf (v := .ref (ad b_1)) G hP h_a0 iCk rfl 3 (by decide) rfl q654 rfl (by show va_rf ((sO σ a0 3).map ad) = _; rw [e_2]; rfl) d_Ck_handlersFit_1 ?_
  refine ugf (v := .ref (ad (lk b_1 11))) G hP c_3 iWd rfl 11 (by decide) rfl q849 rfl rfl d_Ck_handlersFit_4 ?_
  refine ugf (v := .ref (yP y (lk b_1 11) 0)) G hP (lk_9_11 c_3) iIn rfl 0 (by decide) rfl q380 rfl rfl d_Ck_handlersFit_7 ?_
  refine lv_astore_n (lv' := [(2, .ref (yP y (lk b_1 11) 0)), (0, .ref (ad a0)), (1, .int v1)]) G.1 G.2.1 d_Ck_handlersFit_10 rfl hl (by decide) rfl (fun ls hl => ?_)
  refine lv_aload_n G.1 G.2.1 d_Ck_handlersFit_11 rfl (lv_at hl 1 rfl) ?_
  obtain ⟨b_4, e_5, c_6, h⟩ := h
  refine ugf (v := .ref (ad b_4)) G hP h_a0 iCk rfl 3 (by decide) rfl q654 rfl (by show va_rf ((sO σ a0 3).map ad) = _; rw [e_5]; rfl) d_Ck_handlersFit_12 ?_
  refine lv_aload_n G.1 G.2.1 d_Ck_handlersFit_15 rfl (lv_at hl 1 rfl) ?_
  refine ugf (v := .int (sV σ a0 4)) G hP h_a0 iCk rfl 4 (by decide) rfl q655 rfl rfl d_Ck_handlersFit_16 ?_
  refine lv_aload_n G.1 G.2.1 d_Ck_handlersFit_19 rfl (lv_at hl 1 rfl) ?_
  refine ugf (v := .int (sV σ a0 1)) G hP h_a0 iCk rfl 1 (by decide) rfl q651 rfl rfl d_Ck_handlersFit_20 ?_
  refine W.eq (g2 := F0 m 23 ls [.int (sV σ a0 1), .int (sV σ a0 4), .ref (ad b_4)]) rfl ?_
  refine lv_bipush (v := 6) G.1 G.2.1 d_Ck_handlersFit_23 (by decide) ?_
  refine ucVi (As := [.int (sV σ a0 4), .int (sV σ a0 1), .int 6]) (rest := []) G hP hD hS (cu_Wd_method l D g ad y _ σ b_4 (sV σ a0 4) (sV σ a0 1) 6 H.size c_6 h) w9_Wd_method q1580 ⟨Nat.le_of_ble_eq_true rfl, Nat.le_of_ble_eq_true rfl⟩ rfl rfl c_6 (q := (RWd, TWd, 17)) rfl rfl hl.1 rfl (Nat.le_of_ble_eq_true rfl) rfl ⟨Nat.le_refl _, Nat.le_refl _⟩ d_Ck_handlersFit_25 (fun r_7 s_8 H locs h hP hD hS => ?_)
  refine lv_istore_n (lv' := [(3, .int r_7), (2, .ref (yP y (lk b_1 11) 0)), (0, .ref (ad a0)), (1, .int v1)]) G.1 G.2.1 d_Ck_handlersFit_28 rfl hl (by decide) rfl (fun ls hl => ?_)
  refine lv_iload_n G.1 G.2.1 d_Ck_handlersFit_29 rfl (lv_at hl 0 rfl) ?_
  refine lv_aload_n G.1 G.2.1 d_Ck_handlersFit_30 rfl (lv_at hl 2 rfl) ?_
  obtain ⟨b_9, e_10, c_11, h⟩ := h
  refine ugf (v := .ref (ad b_9)) G hP h_a0 iCk rfl 3 (by decide) rfl q654 rfl (by show va_rf ((sO s_8 a0 3).map ad) = _; rw [e_10]; rfl) d_Ck_handlersFit_31 ?_
  refine lv_aload_n G.1 G.2.1 d_Ck_handlersFit_34 rfl (lv_at hl 2 rfl) ?_
  refine ugf (v := .int (sV s_8 a0 4)) G hP h_a0 iCk rfl 4 (by decide) rfl q655 rfl rfl d_Ck_handlersFit_35 ?_
  refine lv_aload_n G.1 G.2.1 d_Ck_handlersFit_38 rfl (lv_at hl 2 rfl) ?_
  refine ugf (v := .int (sV s_8 a0 1)) G hP h_a0 iCk rfl 1 (by decide) rfl q651 rfl rfl d_Ck_handlersFit_39 ?_
  refine lv_bipush (v := 7) G.1 G.2.1 d_Ck_handlersFit_42 (by decide) ?_
  refine ucVi (As := [.int (sV s_8 a0 4), .int (sV s_8 a0 1), .int 7]) (rest := [.int r_7]) G hP hD hS (cu_Wd_method l D g ad y _ s_8 b_9 (sV s_8 a0 4) (sV s_8 a0 1) 7 H.size c_11 h) w9_Wd_method q1580 ⟨Nat.le_of_ble_eq_true rfl, Nat.le_of_ble_eq_true rfl⟩ rfl rfl c_11 (q := (RWd, TWd, 17)) rfl rfl hl.1 rfl (Nat.le_of_ble_eq_true rfl) rfl ⟨Nat.le_refl _, Nat.le_refl _⟩ d_Ck_handlersFit_44 (fun r_12 s_13 H locs h hP hD hS => ?_)
  refine W.eq (g2 := F0 m 47 ls [.int r_12, .int r_7]) rfl ?_
  refine lv_iconst (v := 4) G.1 G.2.1 d_Ck_handlersFit_47 (by decide) ?_
  refine lv_imul G.1 G.2.1 d_Ck_handlersFit_48 ?_
  refine lv_iadd G.1 G.2.1 d_Ck_handlersFit_49 ?_
  refine lv_istore (lv' := [(4, .int (r_7 + (r_12 * 4))), (3, .int r_7), (2, .ref (yP y (lk b_1 11) 0)), (0, .ref (ad a0)), (1, .int v1)]) G.1 G.2.1 d_Ck_handlersFit_50 hl (by decide) rfl (fun ls hl => ?_)
  refine lv_iconst (v := 0) G.1 G.2.1 d_Ck_handlersFit_52 (by decide) ?_
  refine lv_istore (lv' := [(5, .int 0), (4, .int (r_7 + (r_12 * 4))), (3, .int r_7), (2, .ref (yP y (lk b_1 11) 0)), (0, .ref (ad a0)), (1, .int v1)]) G.1 G.2.1 d_Ck_handlersFit_53 hl (by decide) rfl (fun ls hl => ?_)
  refine lv_iload_n G.1 G.2.1 d_Ck_handlersFit_55 rfl (lv_at hl 2 rfl) ?_
  refine lv_istore (lv' := [(6, .int r_7), (5, .int 0), (4, .int (r_7 + (r_12 * 4))), (3, .int r_7), (2, .ref (yP y (lk b_1 11) 0)), (0, .ref (ad a0)), (1, .int v1)]) G.1 G.2.1 d_Ck_handlersFit_56 hl (by decide) rfl (fun ls hl => ?_)
  unfold wl_Ck_handlersFit_58 at h
  obtain ⟨I_58, μ_58, hI_58, hB_58⟩ := h
  have L_58 : ∀ (n_58 : Nat) (s_h58 : St) (x1h58 : Int32) (x2h58 : Nat) (x2h58k : Nat) (x4h58 : Int32) (x5h58 : Int32) (x6h58 : Int32), μ_58 s_h58 x1h58 x2h58 x2h58k x4h58 x5h58 x6h58 < n_58 → I_58 s_h58 x1h58 x2h58 x2h58k x4h58 x5h58 x6h58 → ∀ (H : Heap) (locs : List Loc), va_P D CL (ws g ad y s_h58) H → va_D A (ws g ad y s_h58) → va_S A s.heap H locs → ∀ ls, lv_has ls 8 [(0, .ref (ad a0)), (1, .int x1h58), (2, .ref (yP y x2h58 x2h58k)), (4, .int x4h58), (5, .int x5h58), (6, .int x6h58)] → W p l e ru_Ck_handlersFit s m args below meth c H locs 0 0 Q (F0 m 58 ls []) := by
    intro n_58
    induction n_58 with
    | zero => intro s_h58 x1h58 x2h58 x2h58k x4h58 x5h58 x6h58 hμ; exact absurd hμ (Nat.not_lt_zero _)
    | succ n_58 ih_58 =>
      intro s_h58 x1h58 x2h58 x2h58k x4h58 x5h58 x6h58 hμ_58 hJ H locs hP hD hS ls hl
      obtain ⟨K_58, hK_58, h⟩ : ∃ K : St → Int32 → Nat → Nat → Int32 → Int32 → Int32 → Prop, (∀ z (t0 : Int32) (t1 : Nat) (t2 : Nat) (t3 : Int32) (t4 : Int32) (t5 : Int32), K z t0 t1 t2 t3 t4 t5 → I_58 z t0 t1 t2 t3 t4 t5 ∧ μ_58 z t0 t1 t2 t3 t4 t5 < μ_58 s_h58 x1h58 x2h58 x2h58k x4h58 x5h58 x6h58) ∧ wb_Ck_handlersFit_58 y Post K a0 s_h58 x1h58 x2h58 x2h58k x4h58 x5h58 x6h58 := ⟨_, fun _ _ _ _ _ _ _ h => h, hB_58 s_h58 x1h58 x2h58 x2h58k x4h58 x5h58 x6h58 hJ⟩
      unfold wb_Ck_handlersFit_58 at h
      obtain ⟨c_x2h58, h⟩ := h
      refine lv_iload G.1 G.2.1 d_Ck_handlersFit_58 (lv_at hl 5 rfl) ?_
      refine lv_iload G.1 G.2.1 d_Ck_handlersFit_60 (lv_at hl 3 rfl) ?_
      have J_128 : ∀ (s_j128 : St) (x5j128 : Int32) (H : Heap) (locs : List Loc), wj_Ck_handlersFit_128 y Post a0 s_j128 x5j128 → va_P D CL (ws g ad y s_j128) H → va_D A (ws g ad y s_j128) → va_S A s.heap H locs → ∀ ls, lv_has ls 8 [(5, .int x5j128)] → W p l e ru_Ck_handlersFit s m args below meth c H locs 0 0 Q (F0 m 128 ls []) := by
        intro s_j128 x5j128 H locs h hP hD hS ls hl
        unfold wj_Ck_handlersFit_128 at h
        refine lv_iload G.1 G.2.1 d_Ck_handlersFit_128 (lv_at hl 0 rfl) ?_
        exact hret _ _ _ _ _ _ _ ls h hP hD hS (Nat.le_refl _) (Nat.le_refl _) d_Ck_handlersFit_130
      refine lv_icmp_ge (tgt := 128) G.1 G.2.1 d_Ck_handlersFit_62 (by decide) (fun c62 => ?_) (fun c62 => ?_)
      · skip
        have h := h.1 c62
        exact J_128 s_h58 x5h58 H locs h hP hD hS ls (lv_sub hl [4] rfl)
      · skip
        have h := h.2 c62
        refine lv_iload G.1 G.2.1 d_Ck_handlersFit_65 (lv_at hl 4 rfl) ?_
        refine lv_if_ne (tgt := 128) G.1 G.2.1 d_Ck_handlersFit_67 (by decide) (fun c67 => ?_) (fun c67 => ?_)
        · skip
          have h := h.1 c67
          exact J_128 s_h58 x5h58 H locs h hP hD hS ls (lv_sub hl [4] rfl)
        · skip
          have h := h.2 c67
          refine lv_aload_n G.1 G.2.1 d_Ck_handlersFit_70 rfl (lv_at hl 2 rfl) ?_
          refine lv_iload G.1 G.2.1 d_Ck_handlersFit_71 (lv_at hl 5 rfl) ?_
          refine uiald G hP c_x2h58.1 c_x2h58.2 h d_Ck_handlersFit_73 (fun x_14 h => ?_)
          refine lv_iload_n G.1 G.2.1 d_Ck_handlersFit_74 rfl (lv_at hl 1 rfl) ?_
          have J_122 : ∀ (s_j122 : St) (x1j122 : Int32) (x2j122 : Nat) (x2j122k : Nat) (x4j122 : Int32) (x5j122 : Int32) (x6j122 : Int32) (H : Heap) (locs : List Loc), wj_Ck_handlersFit_122 y Post K_58 a0 s_j122 x1j122 x2j122 x2j122k x4j122 x5j122 x6j122 → va_P D CL (ws g ad y s_j122) H → va_D A (ws g ad y s_j122) → va_S A s.heap H locs → ∀ ls, lv_has ls 8 [(0, .ref (ad a0)), (1, .int x1j122), (2, .ref (yP y x2j122 x2j122k)), (4, .int x4j122), (5, .int x5j122), (6, .int x6j122)] → W p l e ru_Ck_handlersFit s m args below meth c H locs 0 0 Q (F0 m 122 ls []) := by
            intro s_j122 x1j122 x2j122 x2j122k x4j122 x5j122 x6j122 H locs h hP hD hS ls hl
            unfold wj_Ck_handlersFit_122 at h
            obtain ⟨c_x2j122, h⟩ := h
            refine lv_iinc (v := x6j122 + 4) (lv' := [(6, .int (x6j122 + 4)), (0, .ref (ad a0)), (1, .int x1j122), (2, .ref (yP y x2j122 x2j122k)), (4, .int x4j122), (5, .int x5j122)]) G.1 G.2.1 d_Ck_handlersFit_122 hl (k := 5) rfl rfl (by decide) rfl (fun ls hl => ?_)
            refine lv_goto (tgt := 58) G.1 G.2.1 d_Ck_handlersFit_125 (by decide) ?_
            have h := hK_58 s_j122 x1j122 x2j122 x2j122k x4j122 x5j122 (x6j122 + 4) h
            exact ih_58 s_j122 x1j122 x2j122 x2j122k x4j122 x5j122 (x6j122 + 4) (Nat.lt_of_lt_of_le h.2 (Nat.le_of_lt_succ hμ_58)) h.1 H locs hP hD hS ls (lv_sub hl [1, 2, 3, 4, 5, 0] rfl)
          refine lv_icmp_gt (tgt := 122) G.1 G.2.1 d_Ck_handlersFit_75 (by decide) (fun c75 => ?_) (fun c75 => ?_)
          · skip
            have h := h.1 c75
            exact J_122 s_h58 x1h58 x2h58 x2h58k x4h58 x5h58 x6h58 H locs h hP hD hS ls (lv_sub hl [0, 1, 2, 3, 4, 5] rfl)
          · skip
            have h := h.2 c75
            refine lv_iload_n G.1 G.2.1 d_Ck_handlersFit_78 rfl (lv_at hl 1 rfl) ?_
            refine W.eq (g2 := F0 m 79 ls [.int x1h58]) rfl ?_
            refine lv_aload_n G.1 G.2.1 d_Ck_handlersFit_79 rfl (lv_at hl 2 rfl) ?_
            refine lv_iload G.1 G.2.1 d_Ck_handlersFit_80 (lv_at hl 5 rfl) ?_
            refine lv_iconst (v := 1) G.1 G.2.1 d_Ck_handlersFit_82 (by decide) ?_
            refine lv_iadd G.1 G.2.1 d_Ck_handlersFit_83 ?_
            refine uiald G hP c_x2h58.1 c_x2h58.2 h d_Ck_handlersFit_84 (fun x_15 h => ?_)
            refine lv_icmp_ge (tgt := 122) G.1 G.2.1 d_Ck_handlersFit_85 (by decide) (fun c85 => ?_) (fun c85 => ?_)
            · skip
              have h := h.1 c85
              exact J_122 s_h58 x1h58 x2h58 x2h58k x4h58 x5h58 x6h58 H locs h hP hD hS ls (lv_sub hl [0, 1, 2, 3, 4, 5] rfl)
            · skip
              have h := h.2 c85
              refine lv_aload_n G.1 G.2.1 d_Ck_handlersFit_88 rfl (lv_at hl 2 rfl) ?_
              refine lv_iload G.1 G.2.1 d_Ck_handlersFit_89 (lv_at hl 5 rfl) ?_
              refine lv_iconst (v := 3) G.1 G.2.1 d_Ck_handlersFit_91 (by decide) ?_
              refine lv_iadd G.1 G.2.1 d_Ck_handlersFit_92 ?_
              refine uiald G hP c_x2h58.1 c_x2h58.2 h d_Ck_handlersFit_93 (fun x_16 h => ?_)
              refine lv_istore (lv' := [(7, .int x_16), (0, .ref (ad a0)), (1, .int x1h58), (2, .ref (yP y x2h58 x2h58k)), (4, .int x4h58), (5, .int x5h58), (6, .int x6h58)]) G.1 G.2.1 d_Ck_handlersFit_94 hl (by decide) rfl (fun ls hl => ?_)
              refine W.eq (g2 := F0 m 96 ls []) rfl ?_
              refine lv_aload_n G.1 G.2.1 d_Ck_handlersFit_96 rfl (lv_at hl 1 rfl) ?_
              refine lv_aload_n G.1 G.2.1 d_Ck_handlersFit_97 rfl (lv_at hl 3 rfl) ?_
              refine lv_iload G.1 G.2.1 d_Ck_handlersFit_98 (lv_at hl 6 rfl) ?_
              refine lv_iconst (v := 2) G.1 G.2.1 d_Ck_handlersFit_100 (by decide) ?_
              refine lv_iadd G.1 G.2.1 d_Ck_handlersFit_101 ?_
              refine uiald G hP c_x2h58.1 c_x2h58.2 h d_Ck_handlersFit_102 (fun x_17 h => ?_)
              refine lv_iload G.1 G.2.1 d_Ck_handlersFit_103 (lv_at hl 0 rfl) ?_
              refine lv_bipush (v := 6) G.1 G.2.1 d_Ck_handlersFit_105 (by decide) ?_
              have J_117 : ∀ (s_j117 : St) (x1j117 : Int32) (x2j117 : Nat) (x2j117k : Nat) (x4j117 : Int32) (x6j117 : Int32) (z1j117 : Int32) (z2j117 : Int32) (H : Heap) (locs : List Loc), wj_Ck_handlersFit_117 y Post K_58 a0 s_j117 x1j117 x2j117 x2j117k x4j117 x6j117 z1j117 z2j117 → va_P D CL (ws g ad y s_j117) H → va_D A (ws g ad y s_j117) → va_S A s.heap H locs → ∀ ls, lv_has ls 8 [(0, .ref (ad a0)), (1, .int x1j117), (2, .ref (yP y x2j117 x2j117k)), (4, .int x4j117), (6, .int x6j117)] → W p l e ru_Ck_handlersFit s m args below meth c H locs 0 0 Q (F0 m 117 ls [.int z2j117, .int z1j117, .ref (ad a0)]) := by
                intro s_j117 x1j117 x2j117 x2j117k x4j117 x6j117 z1j117 z2j117 H locs h hP hD hS ls hl
                unfold wj_Ck_handlersFit_117 at h
                obtain ⟨c_x2j117, h⟩ := h
                refine ucVi (As := [.int z1j117, .int z2j117]) (rest := []) G hP hD hS (cu_Ck_stateFits l D g ad y _ s_j117 a0 z1j117 z2j117 H.size h_a0 h) w9_Ck_stateFits q1612 ⟨Nat.le_of_ble_eq_true rfl, Nat.le_of_ble_eq_true rfl⟩ rfl rfl h_a0 (q := (RCk, TCk, 22)) rfl rfl hl.1 rfl (Nat.le_of_ble_eq_true rfl) rfl ⟨Nat.le_refl _, Nat.le_refl _⟩ d_Ck_handlersFit_117 (fun r_18 s_19 H locs h hP hD hS => ?_)
                refine lv_istore (lv' := [(5, .int r_18), (0, .ref (ad a0)), (1, .int x1j117), (2, .ref (yP y x2j117 x2j117k)), (4, .int x4j117), (6, .int x6j117)]) G.1 G.2.1 d_Ck_handlersFit_120 hl (by decide) rfl (fun ls hl => ?_)
                exact J_122 s_19 x1j117 x2j117 x2j117k x4j117 r_18 x6j117 H locs h hP hD hS ls (lv_sub hl [1, 2, 3, 4, 0, 5] rfl)
              refine lv_icmp_ne (tgt := 115) G.1 G.2.1 d_Ck_handlersFit_107 (by decide) (fun c107 => ?_) (fun c107 => ?_)
              · skip
                have h := h.1 c107
                refine lv_iload G.1 G.2.1 d_Ck_handlersFit_115 (lv_at hl 0 rfl) ?_
                exact J_117 s_h58 x1h58 x2h58 x2h58k x4h58 x6h58 x_17 x_16 H locs h hP hD hS ls (lv_sub hl [1, 2, 3, 4, 6] rfl)
              · skip
                have h := h.2 c107
                refine lv_bipush (v := 10) G.1 G.2.1 d_Ck_handlersFit_110 (by decide) ?_
                refine lv_goto (tgt := 117) G.1 G.2.1 d_Ck_handlersFit_112 (by decide) ?_
                exact J_117 s_h58 x1h58 x2h58 x2h58k x4h58 x6h58 x_17 10 H locs h hP hD hS ls (lv_sub hl [1, 2, 3, 4, 6] rfl)
  exact L_58 _ s_13 v1 (lk b_1 11) 0 (r_7 + (r_12 * 4)) 0 r_7 (Nat.lt_succ_self _) hI_58 H locs hP hD hS ls (lv_sub hl [5, 6, 4, 2, 1, 0] rfl)
def y_Ck_isRaw : MethodName := ⟨"ClassWorks$Checker", "isRaw", "(I)Z"⟩
abbrev b_Ck_isRaw : ByteArray := prog_2_method_14_code
theorem d_Ck_isRaw_0 : decode b_Ck_isRaw 0 = .ok (.iload_n 0, 1) := by decide +kernel
theorem d_Ck_isRaw_1 : decode b_Ck_isRaw 1 = .ok (.iconst 4, 1) := by decide +kernel
theorem d_Ck_isRaw_2 : decode b_Ck_isRaw 2 = .ok (.if_icmp .eq 7, 3) := by decide +kernel
theorem d_Ck_isRaw_5 : decode b_Ck_isRaw 5 = .ok (.iload_n 0, 1) := by decide +kernel
theorem d_Ck_isRaw_6 : decode b_Ck_isRaw 6 = .ok (.ifCond .ge 7, 3) := by decide +kernel
theorem d_Ck_isRaw_9 : decode b_Ck_isRaw 9 = .ok (.iconst 1, 1) := by decide +kernel
theorem d_Ck_isRaw_10 : decode b_Ck_isRaw 10 = .ok (.goto 4, 3) := by decide +kernel
theorem d_Ck_isRaw_13 : decode b_Ck_isRaw 13 = .ok (.iconst 0, 1) := by decide +kernel
theorem d_Ck_isRaw_14 : decode b_Ck_isRaw 14 = .ok (.ireturn, 1) := by decide +kernel
abbrev ru_Ck_isRaw : Room := { frames := 0, cells := 0, slots := 0, locals := 0 }
def wj_Ck_isRaw_14 (y : Ly) (Post : St → Int32 → Prop) (s_j14 : St) (z0j14 : Int32) : Prop := (nb z0j14 ∧ Post s_j14 z0j14)
def wj_Ck_isRaw_9 (y : Ly) (Post : St → Int32 → Prop) (s_j9 : St) : Prop := wj_Ck_isRaw_14 y Post s_j9 1
def wu_Ck_isRaw (y : Ly) (Post : St → Int32 → Prop) (σ : St) (v0 : Int32) : Prop := ((v0 = 4 → wj_Ck_isRaw_9 y Post σ) ∧ (¬ (v0 = 4) → ((0 ≤ v0 → wj_Ck_isRaw_14 y Post σ 0) ∧ (¬ (0 ≤ v0) → wj_Ck_isRaw_9 y Post σ))))
set_option maxHeartbeats 4000000 in
set_option maxRecDepth 100000 in
theorem cu_Ck_isRaw (l : Launch) (D : va_G) (g : Nat → ClassId) (ad : Nat → Nat) (y : Ly) (Post : St → Int32 → Prop) (σ : St) (v0 : Int32) (sz : Nat) (h : wu_Ck_isRaw y Post σ v0) : Met l y_Ck_isRaw (mw y_Ck_isRaw b_Ck_isRaw 1 (some (.boolean))) ru_Ck_isRaw (PC g D [] [.int v0] sz (ws g ad y σ)) (va_Qi (fun (r : Int32) (u : St) => Post u r) (QW D (va_A (ws g ad y σ) sz) (fun u => ws g ad y u)) (va_A (ws g ad y σ) sz)) 0 0 (va_A (ws g ad y σ) sz) := by
  refine ofZ (by decide +kernel) (Nat.le_of_ble_eq_true rfl) ?_
  intro p e s m args below meth c A Q ls H locs G hsz hP hD hS hl hret
  subst hsz
  have hl : lv_has ls 1 [(0, .int v0)] := hl
  unfold wu_Ck_isRaw at h
  refine lv_iload_n G.1 G.2.1 d_Ck_isRaw_0 rfl (lv_at hl 0 rfl) ?_
  refine lv_iconst (v := 4) G.1 G.2.1 d_Ck_isRaw_1 (by decide) ?_
  have J_14 : ∀ (s_j14 : St) (z0j14 : Int32) (H : Heap) (locs : List Loc), wj_Ck_isRaw_14 y Post s_j14 z0j14 → va_P D CL (ws g ad y s_j14) H → va_D A (ws g ad y s_j14) → va_S A s.heap H locs → ∀ ls, lv_has ls 1 [] → W p l e ru_Ck_isRaw s m args below meth c H locs 0 0 Q (F0 m 14 ls [.int z0j14]) := by
    intro s_j14 z0j14 H locs h hP hD hS ls hl
    unfold wj_Ck_isRaw_14 at h
    exact hret _ _ _ _ _ _ _ ls (nb_n h.1) h.2 hP hD hS (Nat.le_refl _) (Nat.le_refl _) d_Ck_isRaw_14
  have J_9 : ∀ (s_j9 : St) (H : Heap) (locs : List Loc), wj_Ck_isRaw_9 y Post s_j9 → va_P D CL (ws g ad y s_j9) H → va_D A (ws g ad y s_j9) → va_S A s.heap H locs → ∀ ls, lv_has ls 1 [] → W p l e ru_Ck_isRaw s m args below meth c H locs 0 0 Q (F0 m 9 ls []) := by
    intro s_j9 H locs h hP hD hS ls hl
    unfold wj_Ck_isRaw_9 at h
    refine lv_iconst (v := 1) G.1 G.2.1 d_Ck_isRaw_9 (by decide) ?_
    refine lv_goto (tgt := 14) G.1 G.2.1 d_Ck_isRaw_10 (by decide) ?_
    exact J_14 s_j9 1 H locs h hP hD hS ls (lv_sub hl [] rfl)
  refine lv_icmp_eq (tgt := 9) G.1 G.2.1 d_Ck_isRaw_2 (by decide) (fun c2 => ?_) (fun c2 => ?_)
  · skip
    have h := h.1 c2
    exact J_9 σ H locs h hP hD hS ls (lv_sub hl [] rfl)
  · skip
    have h := h.2 c2
    refine lv_iload_n G.1 G.2.1 d_Ck_isRaw_5 rfl (lv_at hl 0 rfl) ?_
    refine lv_if_ge (tgt := 13) G.1 G.2.1 d_Ck_isRaw_6 (by decide) (fun c6 => ?_) (fun c6 => ?_)
    · skip
      have h := h.1 c6
      refine lv_iconst (v := 0) G.1 G.2.1 d_Ck_isRaw_13 (by decide) ?_
      exact J_14 σ 0 H locs h hP hD hS ls (lv_sub hl [] rfl)
    · skip
      have h := h.2 c6
      exact J_9 σ H locs h hP hD hS ls (lv_sub hl [] rfl)
def y_Ck_isReference : MethodName := ⟨"ClassWorks$Checker", "isReference", "(I)Z"⟩
abbrev b_Ck_isReference : ByteArray := prog_2_method_13_code
theorem d_Ck_isReference_0 : decode b_Ck_isReference 0 = .ok (.iload_n 0, 1) := by decide +kernel
theorem d_Ck_isReference_1 : decode b_Ck_isReference 1 = .ok (.iconst 1, 1) := by decide +kernel
theorem d_Ck_isReference_2 : decode b_Ck_isReference 2 = .ok (.if_icmp .eq 14, 3) := by decide +kernel
theorem d_Ck_isReference_5 : decode b_Ck_isReference 5 = .ok (.iload_n 0, 1) := by decide +kernel
theorem d_Ck_isReference_6 : decode b_Ck_isReference 6 = .ok (.iconst 2, 1) := by decide +kernel
theorem d_Ck_isReference_7 : decode b_Ck_isReference 7 = .ok (.if_icmp .eq 9, 3) := by decide +kernel
theorem d_Ck_isReference_10 : decode b_Ck_isReference 10 = .ok (.iload_n 0, 1) := by decide +kernel
theorem d_Ck_isReference_11 : decode b_Ck_isReference 11 = .ok (.bipush 9, 2) := by decide +kernel
theorem d_Ck_isReference_13 : decode b_Ck_isReference 13 = .ok (.if_icmp .lt 7, 3) := by decide +kernel
theorem d_Ck_isReference_16 : decode b_Ck_isReference 16 = .ok (.iconst 1, 1) := by decide +kernel
theorem d_Ck_isReference_17 : decode b_Ck_isReference 17 = .ok (.goto 4, 3) := by decide +kernel
theorem d_Ck_isReference_20 : decode b_Ck_isReference 20 = .ok (.iconst 0, 1) := by decide +kernel
theorem d_Ck_isReference_21 : decode b_Ck_isReference 21 = .ok (.ireturn, 1) := by decide +kernel
abbrev ru_Ck_isReference : Room := { frames := 0, cells := 0, slots := 0, locals := 0 }
def wj_Ck_isReference_21 (y : Ly) (Post : St → Int32 → Prop) (s_j21 : St) (z0j21 : Int32) : Prop := (nb z0j21 ∧ Post s_j21 z0j21)
def wj_Ck_isReference_16 (y : Ly) (Post : St → Int32 → Prop) (s_j16 : St) : Prop := wj_Ck_isReference_21 y Post s_j16 1
def wu_Ck_isReference (y : Ly) (Post : St → Int32 → Prop) (σ : St) (v0 : Int32) : Prop := ((v0 = 1 → wj_Ck_isReference_16 y Post σ) ∧ (¬ (v0 = 1) → ((v0 = 2 → wj_Ck_isReference_16 y Post σ) ∧ (¬ (v0 = 2) → ((v0 < 9 → wj_Ck_isReference_21 y Post σ 0) ∧ (¬ (v0 < 9) → wj_Ck_isReference_16 y Post σ))))))
set_option maxHeartbeats 4000000 in
set_option maxRecDepth 100000 in
theorem cu_Ck_isReference (l : Launch) (D : va_G) (g : Nat → ClassId) (ad : Nat → Nat) (y : Ly) (Post : St → Int32 → Prop) (σ : St) (v0 : Int32) (sz : Nat) (h : wu_Ck_isReference y Post σ v0) : Met l y_Ck_isReference (mw y_Ck_isReference b_Ck_isReference 1 (some (.boolean))) ru_Ck_isReference (PC g D [] [.int v0] sz (ws g ad y σ)) (va_Qi (fun (r : Int32) (u : St) => Post u r) (QW D (va_A (ws g ad y σ) sz) (fun u => ws g ad y u)) (va_A (ws g ad y σ) sz)) 0 0 (va_A (ws g ad y σ) sz) := by
  refine ofZ (by decide +kernel) (Nat.le_of_ble_eq_true rfl) ?_
  intro p e s m args below meth c A Q ls H locs G hsz hP hD hS hl hret
  subst hsz
  have hl : lv_has ls 1 [(0, .int v0)] := hl
  unfold wu_Ck_isReference at h
  refine lv_iload_n G.1 G.2.1 d_Ck_isReference_0 rfl (lv_at hl 0 rfl) ?_
  refine lv_iconst (v := 1) G.1 G.2.1 d_Ck_isReference_1 (by decide) ?_
  have J_21 : ∀ (s_j21 : St) (z0j21 : Int32) (H : Heap) (locs : List Loc), wj_Ck_isReference_21 y Post s_j21 z0j21 → va_P D CL (ws g ad y s_j21) H → va_D A (ws g ad y s_j21) → va_S A s.heap H locs → ∀ ls, lv_has ls 1 [] → W p l e ru_Ck_isReference s m args below meth c H locs 0 0 Q (F0 m 21 ls [.int z0j21]) := by
    intro s_j21 z0j21 H locs h hP hD hS ls hl
    unfold wj_Ck_isReference_21 at h
    exact hret _ _ _ _ _ _ _ ls (nb_n h.1) h.2 hP hD hS (Nat.le_refl _) (Nat.le_refl _) d_Ck_isReference_21
  have J_16 : ∀ (s_j16 : St) (H : Heap) (locs : List Loc), wj_Ck_isReference_16 y Post s_j16 → va_P D CL (ws g ad y s_j16) H → va_D A (ws g ad y s_j16) → va_S A s.heap H locs → ∀ ls, lv_has ls 1 [] → W p l e ru_Ck_isReference s m args below meth c H locs 0 0 Q (F0 m 16 ls []) := by
    intro s_j16 H locs h hP hD hS ls hl
    unfold wj_Ck_isReference_16 at h
    refine lv_iconst (v := 1) G.1 G.2.1 d_Ck_isReference_16 (by decide) ?_
    refine lv_goto (tgt := 21) G.1 G.2.1 d_Ck_isReference_17 (by decide) ?_
    exact J_21 s_j16 1 H locs h hP hD hS ls (lv_sub hl [] rfl)
  refine lv_icmp_eq (tgt := 16) G.1 G.2.1 d_Ck_isReference_2 (by decide) (fun c2 => ?_) (fun c2 => ?_)
  · skip
    have h := h.1 c2
    exact J_16 σ H locs h hP hD hS ls (lv_sub hl [] rfl)
  · skip
    have h := h.2 c2
    refine lv_iload_n G.1 G.2.1 d_Ck_isReference_5 rfl (lv_at hl 0 rfl) ?_
    refine lv_iconst (v := 2) G.1 G.2.1 d_Ck_isReference_6 (by decide) ?_
    refine lv_icmp_eq (tgt := 16) G.1 G.2.1 d_Ck_isReference_7 (by decide) (fun c7 => ?_) (fun c7 => ?_)
    · skip
      have h := h.1 c7
      exact J_16 σ H locs h hP hD hS ls (lv_sub hl [] rfl)
    · skip
      have h := h.2 c7
      refine lv_iload_n G.1 G.2.1 d_Ck_isReference_10 rfl (lv_at hl 0 rfl) ?_
      refine lv_bipush (v := 9) G.1 G.2.1 d_Ck_isReference_11 (by decide) ?_
      refine lv_icmp_lt (tgt := 20) G.1 G.2.1 d_Ck_isReference_13 (by decide) (fun c13 => ?_) (fun c13 => ?_)
      · skip
        have h := h.1 c13
        refine lv_iconst (v := 0) G.1 G.2.1 d_Ck_isReference_20 (by decide) ?_
        exact J_21 σ 0 H locs h hP hD hS ls (lv_sub hl [] rfl)
      · skip
        have h := h.2 c13
        exact J_16 σ H locs h hP hD hS ls (lv_sub hl [] rfl)
theorem q1642 : Cond.constant "ClassWorks$Checker" 201 (-2147483647) ∈ lw_ok := lw_okmem (List.mem_of_getElem? (i := 1642) (by decide +kernel)) rfl
theorem q1651 : Cond.methodLink "ClassWorks$Checker" 206 y_Ck_isReference ∈ lw_ok := lw_okmem (List.mem_of_getElem? (i := 1651) (by decide +kernel)) rfl
theorem q1653 : Cond.code y_Ck_isReference b_Ck_isReference 1 (some (.boolean)) ∈ lw_ok := lw_okmem (List.mem_of_getElem? (i := 1653) (by decide +kernel)) rfl
theorem q1652 : Cond.static y_Ck_isReference ∈ lw_ok := lw_okmem (List.mem_of_getElem? (i := 1652) (by decide +kernel)) rfl
theorem w9_Ck_isReference : CWv y_Ck_isReference b_Ck_isReference 1 (some (.boolean)) 1 ∧ Cond.static y_Ck_isReference ∈ lw_ok := ⟨⟨q1653, q341, by decide +kernel, by decide +kernel, by decide +kernel⟩, q1652⟩
theorem q1643 : Cond.constant "ClassWorks$Checker" 202 (-2147483646) ∈ lw_ok := lw_okmem (List.mem_of_getElem? (i := 1643) (by decide +kernel)) rfl
theorem q1648 : Cond.methodLink "ClassWorks$Checker" 203 y_Ck_isRaw ∈ lw_ok := lw_okmem (List.mem_of_getElem? (i := 1648) (by decide +kernel)) rfl
theorem q1650 : Cond.code y_Ck_isRaw b_Ck_isRaw 1 (some (.boolean)) ∈ lw_ok := lw_okmem (List.mem_of_getElem? (i := 1650) (by decide +kernel)) rfl
theorem q1649 : Cond.static y_Ck_isRaw ∈ lw_ok := lw_okmem (List.mem_of_getElem? (i := 1649) (by decide +kernel)) rfl
theorem w9_Ck_isRaw : CWv y_Ck_isRaw b_Ck_isRaw 1 (some (.boolean)) 1 ∧ Cond.static y_Ck_isRaw ∈ lw_ok := ⟨⟨q1650, q341, by decide +kernel, by decide +kernel, by decide +kernel⟩, q1649⟩
def y_Ck_asWanted : MethodName := ⟨"ClassWorks$Checker", "asWanted", "(II)I"⟩
abbrev b_Ck_asWanted : ByteArray := prog_2_method_18_code
theorem d_Ck_asWanted_0 : decode b_Ck_asWanted 0 = .ok (.iload_n 2, 1) := by decide +kernel
theorem d_Ck_asWanted_1 : decode b_Ck_asWanted 1 = .ok (.ldc 175, 2) := by decide +kernel
theorem d_Ck_asWanted_3 : decode b_Ck_asWanted 3 = .ok (.if_icmp .eq 14, 3) := by decide +kernel
theorem d_Ck_asWanted_6 : decode b_Ck_asWanted 6 = .ok (.iload_n 2, 1) := by decide +kernel
theorem d_Ck_asWanted_7 : decode b_Ck_asWanted 7 = .ok (.ifCond .eq 12, 3) := by decide +kernel
theorem d_Ck_asWanted_10 : decode b_Ck_asWanted 10 = .ok (.iload_n 1, 1) := by decide +kernel
theorem d_Ck_asWanted_11 : decode b_Ck_asWanted 11 = .ok (.invokestatic 203, 3) := by decide +kernel
theorem d_Ck_asWanted_14 : decode b_Ck_asWanted 14 = .ok (.ifCond .eq 5, 3) := by decide +kernel
theorem d_Ck_asWanted_17 : decode b_Ck_asWanted 17 = .ok (.iconst 0, 1) := by decide +kernel
theorem d_Ck_asWanted_18 : decode b_Ck_asWanted 18 = .ok (.ireturn, 1) := by decide +kernel
theorem d_Ck_asWanted_19 : decode b_Ck_asWanted 19 = .ok (.iload_n 2, 1) := by decide +kernel
theorem d_Ck_asWanted_20 : decode b_Ck_asWanted 20 = .ok (.ldc 201, 2) := by decide +kernel
theorem d_Ck_asWanted_22 : decode b_Ck_asWanted 22 = .ok (.if_icmp .eq 9, 3) := by decide +kernel
theorem d_Ck_asWanted_25 : decode b_Ck_asWanted 25 = .ok (.iload_n 2, 1) := by decide +kernel
theorem d_Ck_asWanted_26 : decode b_Ck_asWanted 26 = .ok (.ldc 202, 2) := by decide +kernel
theorem d_Ck_asWanted_28 : decode b_Ck_asWanted 28 = .ok (.if_icmp .ne 17, 3) := by decide +kernel
theorem d_Ck_asWanted_31 : decode b_Ck_asWanted 31 = .ok (.iload_n 1, 1) := by decide +kernel
theorem d_Ck_asWanted_32 : decode b_Ck_asWanted 32 = .ok (.invokestatic 206, 3) := by decide +kernel
theorem d_Ck_asWanted_35 : decode b_Ck_asWanted 35 = .ok (.ifCond .eq 7, 3) := by decide +kernel
theorem d_Ck_asWanted_38 : decode b_Ck_asWanted 38 = .ok (.iconst 0, 1) := by decide +kernel
theorem d_Ck_asWanted_39 : decode b_Ck_asWanted 39 = .ok (.goto 5, 3) := by decide +kernel
theorem d_Ck_asWanted_42 : decode b_Ck_asWanted 42 = .ok (.bipush 32, 2) := by decide +kernel
theorem d_Ck_asWanted_44 : decode b_Ck_asWanted 44 = .ok (.ireturn, 1) := by decide +kernel
theorem d_Ck_asWanted_45 : decode b_Ck_asWanted 45 = .ok (.aload_n 0, 1) := by decide +kernel
theorem d_Ck_asWanted_46 : decode b_Ck_asWanted 46 = .ok (.iload_n 1, 1) := by decide +kernel
theorem d_Ck_asWanted_47 : decode b_Ck_asWanted 47 = .ok (.iload_n 2, 1) := by decide +kernel
theorem d_Ck_asWanted_48 : decode b_Ck_asWanted 48 = .ok (.invokevirtual 189, 3) := by decide +kernel
theorem d_Ck_asWanted_51 : decode b_Ck_asWanted 51 = .ok (.istore_n 3, 1) := by decide +kernel
theorem d_Ck_asWanted_52 : decode b_Ck_asWanted 52 = .ok (.iload_n 3, 1) := by decide +kernel
theorem d_Ck_asWanted_53 : decode b_Ck_asWanted 53 = .ok (.bipush 37, 2) := by decide +kernel
theorem d_Ck_asWanted_55 : decode b_Ck_asWanted 55 = .ok (.if_icmp .ne 8, 3) := by decide +kernel
theorem d_Ck_asWanted_58 : decode b_Ck_asWanted 58 = .ok (.bipush 32, 2) := by decide +kernel
theorem d_Ck_asWanted_60 : decode b_Ck_asWanted 60 = .ok (.goto 4, 3) := by decide +kernel
theorem d_Ck_asWanted_63 : decode b_Ck_asWanted 63 = .ok (.iload_n 3, 1) := by decide +kernel
theorem d_Ck_asWanted_64 : decode b_Ck_asWanted 64 = .ok (.ireturn, 1) := by decide +kernel
abbrev ru_Ck_asWanted : Room := { frames := 1, cells := 0, slots := 0, locals := 29 }
def wj_Ck_asWanted_17 (y : Ly) (Post : St → Int32 → Prop) (a0 : Nat) (s_j17 : St) : Prop := Post s_j17 0
def wj_Ck_asWanted_44 (y : Ly) (Post : St → Int32 → Prop) (a0 : Nat) (s_j44 : St) (z0j44 : Int32) : Prop := Post s_j44 z0j44
def wj_Ck_asWanted_31 (y : Ly) (Post : St → Int32 → Prop) (a0 : Nat) (s_j31 : St) (x1j31 : Int32) : Prop := wu_Ck_isReference y (fun (s_2 : St) (r_1 : Int32) => ((r_1 = 0 → wj_Ck_asWanted_44 y Post a0 s_2 32) ∧ (¬ (r_1 = 0) → wj_Ck_asWanted_44 y Post a0 s_2 0))) s_j31 x1j31
def wj_Ck_asWanted_64 (y : Ly) (Post : St → Int32 → Prop) (a0 : Nat) (s_j64 : St) (z0j64 : Int32) : Prop := Post s_j64 z0j64
def wj_Ck_asWanted_19 (y : Ly) (Post : St → Int32 → Prop) (a0 : Nat) (s_j19 : St) (x1j19 : Int32) (x2j19 : Int32) : Prop := ((x2j19 = (-2147483647) → wj_Ck_asWanted_31 y Post a0 s_j19 x1j19) ∧ (¬ (x2j19 = (-2147483647)) → ((¬ x2j19 = (-2147483646) → wu_Ck_fits y (fun (s_4 : St) (r_3 : Int32) => ((¬ r_3 = 37 → wj_Ck_asWanted_64 y Post a0 s_4 r_3) ∧ (r_3 = 37 → wj_Ck_asWanted_64 y Post a0 s_4 32))) s_j19 a0 x1j19 x2j19) ∧ (x2j19 = (-2147483646) → wj_Ck_asWanted_31 y Post a0 s_j19 x1j19))))
def wu_Ck_asWanted (y : Ly) (Post : St → Int32 → Prop) (σ : St) (a0 : Nat) (v1 : Int32) (v2 : Int32) : Prop := ((v2 = (-2147483648) → wj_Ck_asWanted_17 y Post a0 σ) ∧ (¬ (v2 = (-2147483648)) → ((v2 = 0 → wj_Ck_asWanted_19 y Post a0 σ v1 v2) ∧ (¬ (v2 = 0) → wu_Ck_isRaw y (fun (s_6 : St) (r_5 : Int32) => ((r_5 = 0 → wj_Ck_asWanted_19 y Post a0 s_6 v1 v2) ∧ (¬ (r_5 = 0) → wj_Ck_asWanted_17 y Post a0 s_6))) σ v1))))
set_option maxHeartbeats 4000000 in
set_option maxRecDepth 100000 in
theorem cu_Ck_asWanted (l : Launch) (D : va_G) (g : Nat → ClassId) (ad : Nat → Nat) (y : Ly) (Post : St → Int32 → Prop) (σ : St) (a0 : Nat) (v1 : Int32) (v2 : Int32) (sz : Nat) (h_a0 : cl a0 = 0) (h : wu_Ck_asWanted y Post σ a0 v1 v2) : Met l y_Ck_asWanted (mw y_Ck_asWanted b_Ck_asWanted 4 (some .int)) ru_Ck_asWanted (PC g D [] [.ref (ad a0), .int v1, .int v2] sz (ws g ad y σ)) (va_Qi (fun (r : Int32) (u : St) => Post u r) (QW D (va_A (ws g ad y σ) sz) (fun u => ws g ad y u)) (va_A (ws g ad y σ) sz)) 0 0 (va_A (ws g ad y σ) sz) := by
  refine ofI (by decide +kernel) (Nat.le_of_ble_eq_true rfl) ?_
  intro p e s m args below meth c A Q ls H locs G hsz hP hD hS hl hret
  subst hsz
  have hl : lv_has ls 4 [(0, .ref (ad a0)), (1, .int v1), (2, .int v2)] := hl
  unfold wu_Ck_asWanted at h
  refine lv_iload_n G.1 G.2.1 d_Ck_asWanted_0 rfl (lv_at hl 2 rfl) ?_
  refine lv_ldc (v := (-2147483648)) G.1 G.2.1 G.2.2.2.2.2.2.1 (G.2.2.2.2.2.1 _ q1611) d_Ck_asWanted_1 ?_
  have J_17 : ∀ (s_j17 : St) (H : Heap) (locs : List Loc), wj_Ck_asWanted_17 y Post a0 s_j17 → va_P D CL (ws g ad y s_j17) H → va_D A (ws g ad y s_j17) → va_S A s.heap H locs → ∀ ls, lv_has ls 4 [] → W p l e ru_Ck_asWanted s m args below meth c H locs 0 0 Q (F0 m 17 ls []) := by
    intro s_j17 H locs h hP hD hS ls hl
    unfold wj_Ck_asWanted_17 at h
    refine lv_iconst (v := 0) G.1 G.2.1 d_Ck_asWanted_17 (by decide) ?_
    exact hret _ _ _ _ _ _ _ ls h hP hD hS (Nat.le_refl _) (Nat.le_refl _) d_Ck_asWanted_18
  refine lv_icmp_eq (tgt := 17) G.1 G.2.1 d_Ck_asWanted_3 (by decide) (fun c3 => ?_) (fun c3 => ?_)
  · skip
    have h := h.1 c3
    exact J_17 σ H locs h hP hD hS ls (lv_sub hl [] rfl)
  · skip
    have h := h.2 c3
    refine lv_iload_n G.1 G.2.1 d_Ck_asWanted_6 rfl (lv_at hl 2 rfl) ?_
    have J_19 : ∀ (s_j19 : St) (x1j19 : Int32) (x2j19 : Int32) (H : Heap) (locs : List Loc), wj_Ck_asWanted_19 y Post a0 s_j19 x1j19 x2j19 → va_P D CL (ws g ad y s_j19) H → va_D A (ws g ad y s_j19) → va_S A s.heap H locs → ∀ ls, lv_has ls 4 [(0, .ref (ad a0)), (1, .int x1j19), (2, .int x2j19)] → W p l e ru_Ck_asWanted s m args below meth c H locs 0 0 Q (F0 m 19 ls []) := by
      intro s_j19 x1j19 x2j19 H locs h hP hD hS ls hl
      unfold wj_Ck_asWanted_19 at h
      refine lv_iload_n G.1 G.2.1 d_Ck_asWanted_19 rfl (lv_at hl 2 rfl) ?_
      refine lv_ldc (v := (-2147483647)) G.1 G.2.1 G.2.2.2.2.2.2.1 (G.2.2.2.2.2.1 _ q1642) d_Ck_asWanted_20 ?_
      have J_31 : ∀ (s_j31 : St) (x1j31 : Int32) (H : Heap) (locs : List Loc), wj_Ck_asWanted_31 y Post a0 s_j31 x1j31 → va_P D CL (ws g ad y s_j31) H → va_D A (ws g ad y s_j31) → va_S A s.heap H locs → ∀ ls, lv_has ls 4 [(1, .int x1j31)] → W p l e ru_Ck_asWanted s m args below meth c H locs 0 0 Q (F0 m 31 ls []) := by
        intro s_j31 x1j31 H locs h hP hD hS ls hl
        unfold wj_Ck_asWanted_31 at h
        refine lv_iload_n G.1 G.2.1 d_Ck_asWanted_31 rfl (lv_at hl 0 rfl) ?_
        refine ucSi (As := [.int x1j31]) (rest := []) G hP hD hS (cu_Ck_isReference l D g ad y _ s_j31 x1j31 H.size  h) w9_Ck_isReference q1651 ⟨Nat.le_of_ble_eq_true rfl, Nat.le_of_ble_eq_true rfl⟩ rfl rfl hl.1 rfl (Nat.le_of_ble_eq_true rfl) rfl ⟨Nat.le_refl _, Nat.le_refl _⟩ d_Ck_asWanted_32 (fun r_1 s_2 H locs h hP hD hS => ?_)
        have J_44 : ∀ (s_j44 : St) (z0j44 : Int32) (H : Heap) (locs : List Loc), wj_Ck_asWanted_44 y Post a0 s_j44 z0j44 → va_P D CL (ws g ad y s_j44) H → va_D A (ws g ad y s_j44) → va_S A s.heap H locs → ∀ ls, lv_has ls 4 [] → W p l e ru_Ck_asWanted s m args below meth c H locs 0 0 Q (F0 m 44 ls [.int z0j44]) := by
          intro s_j44 z0j44 H locs h hP hD hS ls hl
          unfold wj_Ck_asWanted_44 at h
          exact hret _ _ _ _ _ _ _ ls h hP hD hS (Nat.le_refl _) (Nat.le_refl _) d_Ck_asWanted_44
        refine lv_if_eq (tgt := 42) G.1 G.2.1 d_Ck_asWanted_35 (by decide) (fun c35 => ?_) (fun c35 => ?_)
        · skip
          have h := h.1 c35
          refine lv_bipush (v := 32) G.1 G.2.1 d_Ck_asWanted_42 (by decide) ?_
          exact J_44 s_2 32 H locs h hP hD hS ls (lv_sub hl [] rfl)
        · skip
          have h := h.2 c35
          refine lv_iconst (v := 0) G.1 G.2.1 d_Ck_asWanted_38 (by decide) ?_
          refine lv_goto (tgt := 44) G.1 G.2.1 d_Ck_asWanted_39 (by decide) ?_
          exact J_44 s_2 0 H locs h hP hD hS ls (lv_sub hl [] rfl)
      refine lv_icmp_eq (tgt := 31) G.1 G.2.1 d_Ck_asWanted_22 (by decide) (fun c22 => ?_) (fun c22 => ?_)
      · skip
        have h := h.1 c22
        exact J_31 s_j19 x1j19 H locs h hP hD hS ls (lv_sub hl [1] rfl)
      · skip
        have h := h.2 c22
        refine lv_iload_n G.1 G.2.1 d_Ck_asWanted_25 rfl (lv_at hl 2 rfl) ?_
        refine lv_ldc (v := (-2147483646)) G.1 G.2.1 G.2.2.2.2.2.2.1 (G.2.2.2.2.2.1 _ q1643) d_Ck_asWanted_26 ?_
        refine lv_icmp_ne (tgt := 45) G.1 G.2.1 d_Ck_asWanted_28 (by decide) (fun c28 => ?_) (fun c28 => ?_)
        · skip
          have h := h.1 c28
          refine lv_aload_n G.1 G.2.1 d_Ck_asWanted_45 rfl (lv_at hl 0 rfl) ?_
          refine lv_iload_n G.1 G.2.1 d_Ck_asWanted_46 rfl (lv_at hl 1 rfl) ?_
          refine lv_iload_n G.1 G.2.1 d_Ck_asWanted_47 rfl (lv_at hl 2 rfl) ?_
          refine ucVi (As := [.int x1j19, .int x2j19]) (rest := []) G hP hD hS (cu_Ck_fits l D g ad y _ s_j19 a0 x1j19 x2j19 H.size h_a0 h) w9_Ck_fits q1620 ⟨Nat.le_of_ble_eq_true rfl, Nat.le_of_ble_eq_true rfl⟩ rfl rfl h_a0 (q := (RCk, TCk, 22)) rfl rfl hl.1 rfl (Nat.le_of_ble_eq_true rfl) rfl ⟨Nat.le_refl _, Nat.le_refl _⟩ d_Ck_asWanted_48 (fun r_3 s_4 H locs h hP hD hS => ?_)
          refine lv_istore_n (lv' := [(3, .int r_3), (0, .ref (ad a0)), (1, .int x1j19), (2, .int x2j19)]) G.1 G.2.1 d_Ck_asWanted_51 rfl hl (by decide) rfl (fun ls hl => ?_)
          refine W.eq (g2 := F0 m 52 ls []) rfl ?_
          refine lv_iload_n G.1 G.2.1 d_Ck_asWanted_52 rfl (lv_at hl 0 rfl) ?_
          refine lv_bipush (v := 37) G.1 G.2.1 d_Ck_asWanted_53 (by decide) ?_
          have J_64 : ∀ (s_j64 : St) (z0j64 : Int32) (H : Heap) (locs : List Loc), wj_Ck_asWanted_64 y Post a0 s_j64 z0j64 → va_P D CL (ws g ad y s_j64) H → va_D A (ws g ad y s_j64) → va_S A s.heap H locs → ∀ ls, lv_has ls 4 [] → W p l e ru_Ck_asWanted s m args below meth c H locs 0 0 Q (F0 m 64 ls [.int z0j64]) := by
            intro s_j64 z0j64 H locs h hP hD hS ls hl
            unfold wj_Ck_asWanted_64 at h
            exact hret _ _ _ _ _ _ _ ls h hP hD hS (Nat.le_refl _) (Nat.le_refl _) d_Ck_asWanted_64
          refine lv_icmp_ne (tgt := 63) G.1 G.2.1 d_Ck_asWanted_55 (by decide) (fun c55 => ?_) (fun c55 => ?_)
          · skip
            have h := h.1 c55
            refine lv_iload_n G.1 G.2.1 d_Ck_asWanted_63 rfl (lv_at hl 0 rfl) ?_
            exact J_64 s_4 r_3 H locs h hP hD hS ls (lv_sub hl [] rfl)
          · skip
            have h := h.2 c55
            refine lv_bipush (v := 32) G.1 G.2.1 d_Ck_asWanted_58 (by decide) ?_
            refine lv_goto (tgt := 64) G.1 G.2.1 d_Ck_asWanted_60 (by decide) ?_
            exact J_64 s_4 32 H locs h hP hD hS ls (lv_sub hl [] rfl)
        · skip
          have h := h.2 c28
          exact J_31 s_j19 x1j19 H locs h hP hD hS ls (lv_sub hl [1] rfl)
    refine lv_if_eq (tgt := 19) G.1 G.2.1 d_Ck_asWanted_7 (by decide) (fun c7 => ?_) (fun c7 => ?_)
    · skip
      have h := h.1 c7
      exact J_19 σ v1 v2 H locs h hP hD hS ls (lv_sub hl [0, 1, 2] rfl)
    · skip
      have h := h.2 c7
      refine lv_iload_n G.1 G.2.1 d_Ck_asWanted_10 rfl (lv_at hl 1 rfl) ?_
      refine ucSi (As := [.int v1]) (rest := []) G hP hD hS (cu_Ck_isRaw l D g ad y _ σ v1 H.size  h) w9_Ck_isRaw q1648 ⟨Nat.le_of_ble_eq_true rfl, Nat.le_of_ble_eq_true rfl⟩ rfl rfl hl.1 rfl (Nat.le_of_ble_eq_true rfl) rfl ⟨Nat.le_refl _, Nat.le_refl _⟩ d_Ck_asWanted_11 (fun r_5 s_6 H locs h hP hD hS => ?_)
      refine lv_if_eq (tgt := 19) G.1 G.2.1 d_Ck_asWanted_14 (by decide) (fun c14 => ?_) (fun c14 => ?_)
      · skip
        have h := h.1 c14
        exact J_19 s_6 v1 v2 H locs h hP hD hS ls (lv_sub hl [0, 1, 2] rfl)
      · skip
        have h := h.2 c14
        exact J_17 s_6 H locs h hP hD hS ls (lv_sub hl [] rfl)
def y_Ck_hasUnmade : MethodName := ⟨"ClassWorks$Checker", "hasUnmade", "()Z"⟩
abbrev b_Ck_hasUnmade : ByteArray := prog_2_method_22_code
theorem d_Ck_hasUnmade_0 : decode b_Ck_hasUnmade 0 = .ok (.iconst 0, 1) := by decide +kernel
theorem d_Ck_hasUnmade_1 : decode b_Ck_hasUnmade 1 = .ok (.istore_n 1, 1) := by decide +kernel
theorem d_Ck_hasUnmade_2 : decode b_Ck_hasUnmade 2 = .ok (.iload_n 1, 1) := by decide +kernel
theorem d_Ck_hasUnmade_3 : decode b_Ck_hasUnmade 3 = .ok (.bipush 20, 2) := by decide +kernel
theorem d_Ck_hasUnmade_5 : decode b_Ck_hasUnmade 5 = .ok (.if_icmp .ge 50, 3) := by decide +kernel
theorem d_Ck_hasUnmade_8 : decode b_Ck_hasUnmade 8 = .ok (.iload_n 1, 1) := by decide +kernel
theorem d_Ck_hasUnmade_9 : decode b_Ck_hasUnmade 9 = .ok (.aload_n 0, 1) := by decide +kernel
theorem d_Ck_hasUnmade_10 : decode b_Ck_hasUnmade 10 = .ok (.getfield 27, 3) := by decide +kernel
theorem d_Ck_hasUnmade_13 : decode b_Ck_hasUnmade 13 = .ok (.if_icmp .ge 13, 3) := by decide +kernel
theorem d_Ck_hasUnmade_16 : decode b_Ck_hasUnmade 16 = .ok (.aload_n 0, 1) := by decide +kernel
theorem d_Ck_hasUnmade_17 : decode b_Ck_hasUnmade 17 = .ok (.getfield 52, 3) := by decide +kernel
theorem d_Ck_hasUnmade_20 : decode b_Ck_hasUnmade 20 = .ok (.iload_n 1, 1) := by decide +kernel
theorem d_Ck_hasUnmade_21 : decode b_Ck_hasUnmade 21 = .ok (.iaload, 1) := by decide +kernel
theorem d_Ck_hasUnmade_22 : decode b_Ck_hasUnmade 22 = .ok (.iconst 4, 1) := by decide +kernel
theorem d_Ck_hasUnmade_23 : decode b_Ck_hasUnmade 23 = .ok (.if_icmp .eq 24, 3) := by decide +kernel
theorem d_Ck_hasUnmade_26 : decode b_Ck_hasUnmade 26 = .ok (.iload_n 1, 1) := by decide +kernel
theorem d_Ck_hasUnmade_27 : decode b_Ck_hasUnmade 27 = .ok (.aload_n 0, 1) := by decide +kernel
theorem d_Ck_hasUnmade_28 : decode b_Ck_hasUnmade 28 = .ok (.getfield 56, 3) := by decide +kernel
theorem d_Ck_hasUnmade_31 : decode b_Ck_hasUnmade 31 = .ok (.if_icmp .ge 18, 3) := by decide +kernel
theorem d_Ck_hasUnmade_34 : decode b_Ck_hasUnmade 34 = .ok (.aload_n 0, 1) := by decide +kernel
theorem d_Ck_hasUnmade_35 : decode b_Ck_hasUnmade 35 = .ok (.getfield 52, 3) := by decide +kernel
theorem d_Ck_hasUnmade_38 : decode b_Ck_hasUnmade 38 = .ok (.bipush 20, 2) := by decide +kernel
theorem d_Ck_hasUnmade_40 : decode b_Ck_hasUnmade 40 = .ok (.iload_n 1, 1) := by decide +kernel
theorem d_Ck_hasUnmade_41 : decode b_Ck_hasUnmade 41 = .ok (.iadd, 1) := by decide +kernel
theorem d_Ck_hasUnmade_42 : decode b_Ck_hasUnmade 42 = .ok (.iaload, 1) := by decide +kernel
theorem d_Ck_hasUnmade_43 : decode b_Ck_hasUnmade 43 = .ok (.iconst 4, 1) := by decide +kernel
theorem d_Ck_hasUnmade_44 : decode b_Ck_hasUnmade 44 = .ok (.if_icmp .ne 5, 3) := by decide +kernel
theorem d_Ck_hasUnmade_47 : decode b_Ck_hasUnmade 47 = .ok (.iconst 1, 1) := by decide +kernel
theorem d_Ck_hasUnmade_48 : decode b_Ck_hasUnmade 48 = .ok (.ireturn, 1) := by decide +kernel
theorem d_Ck_hasUnmade_49 : decode b_Ck_hasUnmade 49 = .ok (.iinc 1 1, 3) := by decide +kernel
theorem d_Ck_hasUnmade_52 : decode b_Ck_hasUnmade 52 = .ok (.goto (-50), 3) := by decide +kernel
theorem d_Ck_hasUnmade_55 : decode b_Ck_hasUnmade 55 = .ok (.iconst 0, 1) := by decide +kernel
theorem d_Ck_hasUnmade_56 : decode b_Ck_hasUnmade 56 = .ok (.ireturn, 1) := by decide +kernel
abbrev ru_Ck_hasUnmade : Room := { frames := 0, cells := 0, slots := 0, locals := 0 }
def wj_Ck_hasUnmade_47 (y : Ly) (Post : St → Int32 → Prop) (a0 : Nat) (s_j47 : St) : Prop := (nb 1 ∧ Post s_j47 1)
def wj_Ck_hasUnmade_49 (y : Ly) (Post : St → Int32 → Prop) (K_2 : St → Int32 → Prop) (a0 : Nat) (s_j49 : St) (x1j49 : Int32) : Prop := K_2 s_j49 (x1j49 + 1)
def wj_Ck_hasUnmade_26 (y : Ly) (Post : St → Int32 → Prop) (K_2 : St → Int32 → Prop) (a0 : Nat) (s_j26 : St) (x1j26 : Int32) : Prop := (((sV s_j26 a0 16) ≤ x1j26 → wj_Ck_hasUnmade_49 y Post K_2 a0 s_j26 x1j26) ∧ (¬ ((sV s_j26 a0 16) ≤ x1j26) → xA y s_j26 a0 15 (20 + x1j26) (fun x_1 : Int32 => ((¬ x_1 = 4 → wj_Ck_hasUnmade_49 y Post K_2 a0 s_j26 x1j26) ∧ (x_1 = 4 → wj_Ck_hasUnmade_47 y Post a0 s_j26)))))
def wb_Ck_hasUnmade_2 (y : Ly) (Post : St → Int32 → Prop) (K_2 : St → Int32 → Prop) (a0 : Nat) (s_h2 : St) (x1h2 : Int32) : Prop := ((20 ≤ x1h2 → (nb 0 ∧ Post s_h2 0)) ∧ (¬ (20 ≤ x1h2) → (((sV s_h2 a0 7) ≤ x1h2 → wj_Ck_hasUnmade_26 y Post K_2 a0 s_h2 x1h2) ∧ (¬ ((sV s_h2 a0 7) ≤ x1h2) → xA y s_h2 a0 15 x1h2 (fun x_2 : Int32 => ((x_2 = 4 → wj_Ck_hasUnmade_47 y Post a0 s_h2) ∧ (¬ (x_2 = 4) → wj_Ck_hasUnmade_26 y Post K_2 a0 s_h2 x1h2)))))))
def wl_Ck_hasUnmade_2 (y : Ly) (Post : St → Int32 → Prop) (a0 : Nat) (s_h2 : St) (x1h2 : Int32) : Prop := ∃ (I : St → Int32 → Prop) (μ : St → Int32 → Nat), I s_h2 x1h2 ∧ ∀ (u : St) (t0 : Int32), I u t0 → wb_Ck_hasUnmade_2 y Post (fun z t0q => I z t0q ∧ μ z t0q < μ u t0) a0 u t0
def wu_Ck_hasUnmade (y : Ly) (Post : St → Int32 → Prop) (σ : St) (a0 : Nat) : Prop := wl_Ck_hasUnmade_2 y Post a0 σ 0
set_option maxHeartbeats 4000000 in
set_option maxRecDepth 100000 in
theorem cu_Ck_hasUnmade (l : Launch) (D : va_G) (g : Nat → ClassId) (ad : Nat → Nat) (y : Ly) (Post : St → Int32 → Prop) (σ : St) (a0 : Nat) (sz : Nat) (h_a0 : cl a0 = 0) (h : wu_Ck_hasUnmade y Post σ a0) : Met l y_Ck_hasUnmade (mw y_Ck_hasUnmade b_Ck_hasUnmade 2 (some (.boolean))) ru_Ck_hasUnmade (PC g D [] [.ref (ad a0)] sz (ws g ad y σ)) (va_Qi (fun (r : Int32) (u : St) => Post u r) (QW D (va_A (ws g ad y σ) sz) (fun u => ws g ad y u)) (va_A (ws g ad y σ) sz)) 0 0 (va_A (ws g ad y σ) sz) := by
  refine ofZ (by decide +kernel) (Nat.le_of_ble_eq_true rfl) ?_
  intro p e s m args below meth c A Q ls H locs G hsz hP hD hS hl hret
  subst hsz
  have hl : lv_has ls 2 [(0, .ref (ad a0))] := hl
  unfold wu_Ck_hasUnmade at h
  refine lv_iconst (v := 0) G.1 G.2.1 d_Ck_hasUnmade_0 (by decide) ?_
  refine lv_istore_n (lv' := [(1, .int 0), (0, .ref (ad a0))]) G.1 G.2.1 d_Ck_hasUnmade_1 rfl hl (by decide) rfl (fun ls hl => ?_)
  unfold wl_Ck_hasUnmade_2 at h
  obtain ⟨I_2, μ_2, hI_2, hB_2⟩ := h
  have L_2 : ∀ (n_2 : Nat) (s_h2 : St) (x1h2 : Int32), μ_2 s_h2 x1h2 < n_2 → I_2 s_h2 x1h2 → ∀ (H : Heap) (locs : List Loc), va_P D CL (ws g ad y s_h2) H → va_D A (ws g ad y s_h2) → va_S A s.heap H locs → ∀ ls, lv_has ls 2 [(0, .ref (ad a0)), (1, .int x1h2)] → W p l e ru_Ck_hasUnmade s m args below meth c H locs 0 0 Q (F0 m 2 ls []) := by
    intro n_2
    induction n_2 with
    | zero => intro s_h2 x1h2 hμ; exact absurd hμ (Nat.not_lt_zero _)
    | succ n_2 ih_2 =>
      intro s_h2 x1h2 hμ_2 hJ H locs hP hD hS ls hl
      obtain ⟨K_2, hK_2, h⟩ : ∃ K : St → Int32 → Prop, (∀ z (t0 : Int32), K z t0 → I_2 z t0 ∧ μ_2 z t0 < μ_2 s_h2 x1h2) ∧ wb_Ck_hasUnmade_2 y Post K a0 s_h2 x1h2 := ⟨_, fun _ _ h => h, hB_2 s_h2 x1h2 hJ⟩
      unfold wb_Ck_hasUnmade_2 at h
      refine lv_iload_n G.1 G.2.1 d_Ck_hasUnmade_2 rfl (lv_at hl 1 rfl) ?_
      refine lv_bipush (v := 20) G.1 G.2.1 d_Ck_hasUnmade_3 (by decide) ?_
      refine lv_icmp_ge (tgt := 55) G.1 G.2.1 d_Ck_hasUnmade_5 (by decide) (fun c5 => ?_) (fun c5 => ?_)
      · skip
        have h := h.1 c5
        refine lv_iconst (v := 0) G.1 G.2.1 d_Ck_hasUnmade_55 (by decide) ?_
        exact hret _ _ _ _ _ _ _ ls (nb_n h.1) h.2 hP hD hS (Nat.le_refl _) (Nat.le_refl _) d_Ck_hasUnmade_56
      · skip
        have h := h.2 c5
        refine lv_iload_n G.1 G.2.1 d_Ck_hasUnmade_8 rfl (lv_at hl 1 rfl) ?_
        refine lv_aload_n G.1 G.2.1 d_Ck_hasUnmade_9 rfl (lv_at hl 0 rfl) ?_
        refine ugf (v := .int (sV s_h2 a0 7)) G hP h_a0 iCk rfl 7 (by decide) rfl q658 rfl rfl d_Ck_hasUnmade_10 ?_
        have J_47 : ∀ (s_j47 : St) (H : Heap) (locs : List Loc), wj_Ck_hasUnmade_47 y Post a0 s_j47 → va_P D CL (ws g ad y s_j47) H → va_D A (ws g ad y s_j47) → va_S A s.heap H locs → ∀ ls, lv_has ls 2 [] → W p l e ru_Ck_hasUnmade s m args below meth c H locs 0 0 Q (F0 m 47 ls []) := by
          intro s_j47 H locs h hP hD hS ls hl
          unfold wj_Ck_hasUnmade_47 at h
          refine lv_iconst (v := 1) G.1 G.2.1 d_Ck_hasUnmade_47 (by decide) ?_
          exact hret _ _ _ _ _ _ _ ls (nb_n h.1) h.2 hP hD hS (Nat.le_refl _) (Nat.le_refl _) d_Ck_hasUnmade_48
        have J_26 : ∀ (s_j26 : St) (x1j26 : Int32) (H : Heap) (locs : List Loc), wj_Ck_hasUnmade_26 y Post K_2 a0 s_j26 x1j26 → va_P D CL (ws g ad y s_j26) H → va_D A (ws g ad y s_j26) → va_S A s.heap H locs → ∀ ls, lv_has ls 2 [(0, .ref (ad a0)), (1, .int x1j26)] → W p l e ru_Ck_hasUnmade s m args below meth c H locs 0 0 Q (F0 m 26 ls []) := by
          intro s_j26 x1j26 H locs h hP hD hS ls hl
          unfold wj_Ck_hasUnmade_26 at h
          refine lv_iload_n G.1 G.2.1 d_Ck_hasUnmade_26 rfl (lv_at hl 1 rfl) ?_
          refine lv_aload_n G.1 G.2.1 d_Ck_hasUnmade_27 rfl (lv_at hl 0 rfl) ?_
          refine ugf (v := .int (sV s_j26 a0 16)) G hP h_a0 iCk rfl 16 (by decide) rfl q667 rfl rfl d_Ck_hasUnmade_28 ?_
          have J_49 : ∀ (s_j49 : St) (x1j49 : Int32) (H : Heap) (locs : List Loc), wj_Ck_hasUnmade_49 y Post K_2 a0 s_j49 x1j49 → va_P D CL (ws g ad y s_j49) H → va_D A (ws g ad y s_j49) → va_S A s.heap H locs → ∀ ls, lv_has ls 2 [(0, .ref (ad a0)), (1, .int x1j49)] → W p l e ru_Ck_hasUnmade s m args below meth c H locs 0 0 Q (F0 m 49 ls []) := by
            intro s_j49 x1j49 H locs h hP hD hS ls hl
            unfold wj_Ck_hasUnmade_49 at h
            refine lv_iinc (v := x1j49 + 1) (lv' := [(1, .int (x1j49 + 1)), (0, .ref (ad a0))]) G.1 G.2.1 d_Ck_hasUnmade_49 hl (k := 1) rfl rfl (by decide) rfl (fun ls hl => ?_)
            refine lv_goto (tgt := 2) G.1 G.2.1 d_Ck_hasUnmade_52 (by decide) ?_
            have h := hK_2 s_j49 (x1j49 + 1) h
            exact ih_2 s_j49 (x1j49 + 1) (Nat.lt_of_lt_of_le h.2 (Nat.le_of_lt_succ hμ_2)) h.1 H locs hP hD hS ls (lv_sub hl [1, 0] rfl)
          refine lv_icmp_ge (tgt := 49) G.1 G.2.1 d_Ck_hasUnmade_31 (by decide) (fun c31 => ?_) (fun c31 => ?_)
          · skip
            have h := h.1 c31
            exact J_49 s_j26 x1j26 H locs h hP hD hS ls (lv_sub hl [0, 1] rfl)
          · skip
            have h := h.2 c31
            refine lv_aload_n G.1 G.2.1 d_Ck_hasUnmade_34 rfl (lv_at hl 0 rfl) ?_
            refine ugf (v := .ref (yP y a0 15)) G hP h_a0 iCk rfl 15 (by decide) rfl q666 rfl rfl d_Ck_hasUnmade_35 ?_
            refine lv_bipush (v := 20) G.1 G.2.1 d_Ck_hasUnmade_38 (by decide) ?_
            refine lv_iload_n G.1 G.2.1 d_Ck_hasUnmade_40 rfl (lv_at hl 1 rfl) ?_
            refine lv_iadd G.1 G.2.1 d_Ck_hasUnmade_41 ?_
            refine uiald G hP (kdp h_a0 rfl) (typ h_a0 rfl) h d_Ck_hasUnmade_42 (fun x_1 h => ?_)
            refine lv_iconst (v := 4) G.1 G.2.1 d_Ck_hasUnmade_43 (by decide) ?_
            refine W.eq (g2 := F0 m 44 ls [.int 4, .int x_1]) rfl ?_
            refine lv_icmp_ne (tgt := 49) G.1 G.2.1 d_Ck_hasUnmade_44 (by decide) (fun c44 => ?_) (fun c44 => ?_)
            · skip
              have h := h.1 c44
              exact J_49 s_j26 x1j26 H locs h hP hD hS ls (lv_sub hl [0, 1] rfl)
            · skip
              have h := h.2 c44
              exact J_47 s_j26 H locs h hP hD hS ls (lv_sub hl [] rfl)
        refine lv_icmp_ge (tgt := 26) G.1 G.2.1 d_Ck_hasUnmade_13 (by decide) (fun c13 => ?_) (fun c13 => ?_)
        · skip
          have h := h.1 c13
          exact J_26 s_h2 x1h2 H locs h hP hD hS ls (lv_sub hl [0, 1] rfl)
        · skip
          have h := h.2 c13
          refine lv_aload_n G.1 G.2.1 d_Ck_hasUnmade_16 rfl (lv_at hl 0 rfl) ?_
          refine ugf (v := .ref (yP y a0 15)) G hP h_a0 iCk rfl 15 (by decide) rfl q666 rfl rfl d_Ck_hasUnmade_17 ?_
          refine lv_iload_n G.1 G.2.1 d_Ck_hasUnmade_20 rfl (lv_at hl 1 rfl) ?_
          refine uiald G hP (kdp h_a0 rfl) (typ h_a0 rfl) h d_Ck_hasUnmade_21 (fun x_2 h => ?_)
          refine W.eq (g2 := F0 m 22 ls [.int x_2]) rfl ?_
          refine lv_iconst (v := 4) G.1 G.2.1 d_Ck_hasUnmade_22 (by decide) ?_
          refine lv_icmp_eq (tgt := 47) G.1 G.2.1 d_Ck_hasUnmade_23 (by decide) (fun c23 => ?_) (fun c23 => ?_)
          · skip
            have h := h.1 c23
            exact J_47 s_h2 H locs h hP hD hS ls (lv_sub hl [] rfl)
          · skip
            have h := h.2 c23
            exact J_26 s_h2 x1h2 H locs h hP hD hS ls (lv_sub hl [0, 1] rfl)
  exact L_2 _ σ 0 (Nat.lt_succ_self _) hI_2 H locs hP hD hS ls (lv_sub hl [1, 0] rfl)
theorem q663 : Cond.fieldLink "ClassWorks$Checker" 43 "ClassWorks$Checker" "op" "I" ∈ lw_ok := lw_okmem (List.mem_of_getElem? (i := 663) (by decide +kernel)) rfl
theorem q665 : Cond.fieldLink "ClassWorks$Checker" 49 "ClassWorks$Checker" "makes" "Z" ∈ lw_ok := lw_okmem (List.mem_of_getElem? (i := 665) (by decide +kernel)) rfl
theorem q664 : Cond.fieldLink "ClassWorks$Checker" 46 "ClassWorks$Checker" "wants" "I" ∈ lw_ok := lw_okmem (List.mem_of_getElem? (i := 664) (by decide +kernel)) rfl
theorem q1662 : Cond.methodLink "ClassWorks$Checker" 228 y_Wd_isFace ∈ lw_ok := lw_okmem (List.mem_of_getElem? (i := 1662) (by decide +kernel)) rfl
theorem q1658 : Cond.methodLink "ClassWorks$Checker" 225 y_Ck_hasUnmade ∈ lw_ok := lw_okmem (List.mem_of_getElem? (i := 1658) (by decide +kernel)) rfl
theorem q1661 : Cond.code y_Ck_hasUnmade b_Ck_hasUnmade 2 (some (.boolean)) ∈ lw_ok := lw_okmem (List.mem_of_getElem? (i := 1661) (by decide +kernel)) rfl
theorem q1660 : Cond.instanceMethod y_Ck_hasUnmade ∈ lw_ok := lw_okmem (List.mem_of_getElem? (i := 1660) (by decide +kernel)) rfl
theorem q63 : Cond.selects y_Ck_hasUnmade.cls y_Ck_hasUnmade y_Ck_hasUnmade ∈ lw_ok := lw_okmem (List.mem_of_getElem? (i := 63) (by decide +kernel)) rfl
theorem w9_Ck_hasUnmade : CWv y_Ck_hasUnmade b_Ck_hasUnmade 2 (some (.boolean)) 0 ∧ Cond.instanceMethod y_Ck_hasUnmade ∈ lw_ok ∧ Cond.selects y_Ck_hasUnmade.cls y_Ck_hasUnmade y_Ck_hasUnmade ∈ lw_ok := ⟨⟨q1661, q341, by decide +kernel, by decide +kernel, by decide +kernel⟩, q1660, q63⟩
def y_Ck_ownRules : MethodName := ⟨"ClassWorks$Checker", "ownRules", "()I"⟩
abbrev b_Ck_ownRules : ByteArray := prog_2_method_21_code
theorem d_Ck_ownRules_0 : decode b_Ck_ownRules 0 = .ok (.aload_n 0, 1) := by decide +kernel
theorem d_Ck_ownRules_1 : decode b_Ck_ownRules 1 = .ok (.getfield 43, 3) := by decide +kernel
theorem d_Ck_ownRules_4 : decode b_Ck_ownRules 4 = .ok (.bipush 57, 2) := by decide +kernel
theorem d_Ck_ownRules_6 : decode b_Ck_ownRules 6 = .ok (.if_icmp .ne 37, 3) := by decide +kernel
theorem d_Ck_ownRules_9 : decode b_Ck_ownRules 9 = .ok (.aload_n 0, 1) := by decide +kernel
theorem d_Ck_ownRules_10 : decode b_Ck_ownRules 10 = .ok (.getfield 36, 3) := by decide +kernel
theorem d_Ck_ownRules_13 : decode b_Ck_ownRules 13 = .ok (.ifCond .eq 15, 3) := by decide +kernel
theorem d_Ck_ownRules_16 : decode b_Ck_ownRules 16 = .ok (.aload_n 0, 1) := by decide +kernel
theorem d_Ck_ownRules_17 : decode b_Ck_ownRules 17 = .ok (.invokevirtual 225, 3) := by decide +kernel
theorem d_Ck_ownRules_20 : decode b_Ck_ownRules 20 = .ok (.ifCond .eq 8, 3) := by decide +kernel
theorem d_Ck_ownRules_23 : decode b_Ck_ownRules 23 = .ok (.bipush 40, 2) := by decide +kernel
theorem d_Ck_ownRules_25 : decode b_Ck_ownRules 25 = .ok (.goto 17, 3) := by decide +kernel
theorem d_Ck_ownRules_28 : decode b_Ck_ownRules 28 = .ok (.aload_n 0, 1) := by decide +kernel
theorem d_Ck_ownRules_29 : decode b_Ck_ownRules 29 = .ok (.getfield 33, 3) := by decide +kernel
theorem d_Ck_ownRules_32 : decode b_Ck_ownRules 32 = .ok (.iconst 5, 1) := by decide +kernel
theorem d_Ck_ownRules_33 : decode b_Ck_ownRules 33 = .ok (.if_icmp .eq 8, 3) := by decide +kernel
theorem d_Ck_ownRules_36 : decode b_Ck_ownRules 36 = .ok (.bipush 41, 2) := by decide +kernel
theorem d_Ck_ownRules_38 : decode b_Ck_ownRules 38 = .ok (.goto 4, 3) := by decide +kernel
theorem d_Ck_ownRules_41 : decode b_Ck_ownRules 41 = .ok (.iconst 0, 1) := by decide +kernel
theorem d_Ck_ownRules_42 : decode b_Ck_ownRules 42 = .ok (.ireturn, 1) := by decide +kernel
theorem d_Ck_ownRules_43 : decode b_Ck_ownRules 43 = .ok (.aload_n 0, 1) := by decide +kernel
theorem d_Ck_ownRules_44 : decode b_Ck_ownRules 44 = .ok (.getfield 43, 3) := by decide +kernel
theorem d_Ck_ownRules_47 : decode b_Ck_ownRules 47 = .ok (.bipush 58, 2) := by decide +kernel
theorem d_Ck_ownRules_49 : decode b_Ck_ownRules 49 = .ok (.if_icmp .ne 17, 3) := by decide +kernel
theorem d_Ck_ownRules_52 : decode b_Ck_ownRules 52 = .ok (.aload_n 0, 1) := by decide +kernel
theorem d_Ck_ownRules_53 : decode b_Ck_ownRules 53 = .ok (.getfield 33, 3) := by decide +kernel
theorem d_Ck_ownRules_56 : decode b_Ck_ownRules 56 = .ok (.ifCond .eq 8, 3) := by decide +kernel
theorem d_Ck_ownRules_59 : decode b_Ck_ownRules 59 = .ok (.bipush 41, 2) := by decide +kernel
theorem d_Ck_ownRules_61 : decode b_Ck_ownRules 61 = .ok (.goto 4, 3) := by decide +kernel
theorem d_Ck_ownRules_64 : decode b_Ck_ownRules 64 = .ok (.iconst 0, 1) := by decide +kernel
theorem d_Ck_ownRules_65 : decode b_Ck_ownRules 65 = .ok (.ireturn, 1) := by decide +kernel
theorem d_Ck_ownRules_66 : decode b_Ck_ownRules 66 = .ok (.aload_n 0, 1) := by decide +kernel
theorem d_Ck_ownRules_67 : decode b_Ck_ownRules 67 = .ok (.getfield 43, 3) := by decide +kernel
theorem d_Ck_ownRules_70 : decode b_Ck_ownRules 70 = .ok (.bipush 59, 2) := by decide +kernel
theorem d_Ck_ownRules_72 : decode b_Ck_ownRules 72 = .ok (.if_icmp .ne 25, 3) := by decide +kernel
theorem d_Ck_ownRules_75 : decode b_Ck_ownRules 75 = .ok (.aload_n 0, 1) := by decide +kernel
theorem d_Ck_ownRules_76 : decode b_Ck_ownRules 76 = .ok (.getfield 33, 3) := by decide +kernel
theorem d_Ck_ownRules_79 : decode b_Ck_ownRules 79 = .ok (.ifCond .eq 11, 3) := by decide +kernel
theorem d_Ck_ownRules_82 : decode b_Ck_ownRules 82 = .ok (.aload_n 0, 1) := by decide +kernel
theorem d_Ck_ownRules_83 : decode b_Ck_ownRules 83 = .ok (.getfield 33, 3) := by decide +kernel
theorem d_Ck_ownRules_86 : decode b_Ck_ownRules 86 = .ok (.iconst 5, 1) := by decide +kernel
theorem d_Ck_ownRules_87 : decode b_Ck_ownRules 87 = .ok (.if_icmp .ne 8, 3) := by decide +kernel
theorem d_Ck_ownRules_90 : decode b_Ck_ownRules 90 = .ok (.bipush 41, 2) := by decide +kernel
theorem d_Ck_ownRules_92 : decode b_Ck_ownRules 92 = .ok (.goto 4, 3) := by decide +kernel
theorem d_Ck_ownRules_95 : decode b_Ck_ownRules 95 = .ok (.iconst 0, 1) := by decide +kernel
theorem d_Ck_ownRules_96 : decode b_Ck_ownRules 96 = .ok (.ireturn, 1) := by decide +kernel
theorem d_Ck_ownRules_97 : decode b_Ck_ownRules 97 = .ok (.aload_n 0, 1) := by decide +kernel
theorem d_Ck_ownRules_98 : decode b_Ck_ownRules 98 = .ok (.getfield 43, 3) := by decide +kernel
theorem d_Ck_ownRules_101 : decode b_Ck_ownRules 101 = .ok (.bipush 51, 2) := by decide +kernel
theorem d_Ck_ownRules_103 : decode b_Ck_ownRules 103 = .ok (.if_icmp .eq 17, 3) := by decide +kernel
theorem d_Ck_ownRules_106 : decode b_Ck_ownRules 106 = .ok (.aload_n 0, 1) := by decide +kernel
theorem d_Ck_ownRules_107 : decode b_Ck_ownRules 107 = .ok (.getfield 49, 3) := by decide +kernel
theorem d_Ck_ownRules_110 : decode b_Ck_ownRules 110 = .ok (.ifCond .eq 8, 3) := by decide +kernel
theorem d_Ck_ownRules_113 : decode b_Ck_ownRules 113 = .ok (.bipush 42, 2) := by decide +kernel
theorem d_Ck_ownRules_115 : decode b_Ck_ownRules 115 = .ok (.goto 4, 3) := by decide +kernel
theorem d_Ck_ownRules_118 : decode b_Ck_ownRules 118 = .ok (.iconst 0, 1) := by decide +kernel
theorem d_Ck_ownRules_119 : decode b_Ck_ownRules 119 = .ok (.ireturn, 1) := by decide +kernel
theorem d_Ck_ownRules_120 : decode b_Ck_ownRules 120 = .ok (.aload_n 0, 1) := by decide +kernel
theorem d_Ck_ownRules_121 : decode b_Ck_ownRules 121 = .ok (.iconst 1, 1) := by decide +kernel
theorem d_Ck_ownRules_122 : decode b_Ck_ownRules 122 = .ok (.invokevirtual 172, 3) := by decide +kernel
theorem d_Ck_ownRules_125 : decode b_Ck_ownRules 125 = .ok (.istore_n 1, 1) := by decide +kernel
theorem d_Ck_ownRules_126 : decode b_Ck_ownRules 126 = .ok (.iload_n 1, 1) := by decide +kernel
theorem d_Ck_ownRules_127 : decode b_Ck_ownRules 127 = .ok (.aload_n 0, 1) := by decide +kernel
theorem d_Ck_ownRules_128 : decode b_Ck_ownRules 128 = .ok (.getfield 78, 3) := by decide +kernel
theorem d_Ck_ownRules_131 : decode b_Ck_ownRules 131 = .ok (.aload_n 0, 1) := by decide +kernel
theorem d_Ck_ownRules_132 : decode b_Ck_ownRules 132 = .ok (.getfield 18, 3) := by decide +kernel
theorem d_Ck_ownRules_135 : decode b_Ck_ownRules 135 = .ok (.iconst 0, 1) := by decide +kernel
theorem d_Ck_ownRules_136 : decode b_Ck_ownRules 136 = .ok (.invokevirtual 103, 3) := by decide +kernel
theorem d_Ck_ownRules_139 : decode b_Ck_ownRules 139 = .ok (.if_icmp .ne 7, 3) := by decide +kernel
theorem d_Ck_ownRules_142 : decode b_Ck_ownRules 142 = .ok (.iconst 1, 1) := by decide +kernel
theorem d_Ck_ownRules_143 : decode b_Ck_ownRules 143 = .ok (.goto 4, 3) := by decide +kernel
theorem d_Ck_ownRules_146 : decode b_Ck_ownRules 146 = .ok (.iconst 0, 1) := by decide +kernel
theorem d_Ck_ownRules_147 : decode b_Ck_ownRules 147 = .ok (.istore_n 2, 1) := by decide +kernel
theorem d_Ck_ownRules_148 : decode b_Ck_ownRules 148 = .ok (.iload_n 2, 1) := by decide +kernel
theorem d_Ck_ownRules_149 : decode b_Ck_ownRules 149 = .ok (.ifCond .ne 38, 3) := by decide +kernel
theorem d_Ck_ownRules_152 : decode b_Ck_ownRules 152 = .ok (.iload_n 1, 1) := by decide +kernel
theorem d_Ck_ownRules_153 : decode b_Ck_ownRules 153 = .ok (.aload_n 0, 1) := by decide +kernel
theorem d_Ck_ownRules_154 : decode b_Ck_ownRules 154 = .ok (.getfield 78, 3) := by decide +kernel
theorem d_Ck_ownRules_157 : decode b_Ck_ownRules 157 = .ok (.aload_n 0, 1) := by decide +kernel
theorem d_Ck_ownRules_158 : decode b_Ck_ownRules 158 = .ok (.getfield 18, 3) := by decide +kernel
theorem d_Ck_ownRules_161 : decode b_Ck_ownRules 161 = .ok (.invokevirtual 228, 3) := by decide +kernel
theorem d_Ck_ownRules_164 : decode b_Ck_ownRules 164 = .ok (.ifCond .eq 8, 3) := by decide +kernel
theorem d_Ck_ownRules_167 : decode b_Ck_ownRules 167 = .ok (.bipush 9, 2) := by decide +kernel
theorem d_Ck_ownRules_169 : decode b_Ck_ownRules 169 = .ok (.goto 15, 3) := by decide +kernel
theorem d_Ck_ownRules_172 : decode b_Ck_ownRules 172 = .ok (.aload_n 0, 1) := by decide +kernel
theorem d_Ck_ownRules_173 : decode b_Ck_ownRules 173 = .ok (.getfield 78, 3) := by decide +kernel
theorem d_Ck_ownRules_176 : decode b_Ck_ownRules 176 = .ok (.aload_n 0, 1) := by decide +kernel
theorem d_Ck_ownRules_177 : decode b_Ck_ownRules 177 = .ok (.getfield 18, 3) := by decide +kernel
theorem d_Ck_ownRules_180 : decode b_Ck_ownRules 180 = .ok (.iconst 2, 1) := by decide +kernel
theorem d_Ck_ownRules_181 : decode b_Ck_ownRules 181 = .ok (.invokevirtual 103, 3) := by decide +kernel
theorem d_Ck_ownRules_184 : decode b_Ck_ownRules 184 = .ok (.if_icmp .ne 7, 3) := by decide +kernel
theorem d_Ck_ownRules_187 : decode b_Ck_ownRules 187 = .ok (.iconst 1, 1) := by decide +kernel
theorem d_Ck_ownRules_188 : decode b_Ck_ownRules 188 = .ok (.goto 4, 3) := by decide +kernel
theorem d_Ck_ownRules_191 : decode b_Ck_ownRules 191 = .ok (.iconst 0, 1) := by decide +kernel
theorem d_Ck_ownRules_192 : decode b_Ck_ownRules 192 = .ok (.istore_n 2, 1) := by decide +kernel
theorem d_Ck_ownRules_193 : decode b_Ck_ownRules 193 = .ok (.aload_n 0, 1) := by decide +kernel
theorem d_Ck_ownRules_194 : decode b_Ck_ownRules 194 = .ok (.getfield 49, 3) := by decide +kernel
theorem d_Ck_ownRules_197 : decode b_Ck_ownRules 197 = .ok (.ifCond .eq 80, 3) := by decide +kernel
theorem d_Ck_ownRules_200 : decode b_Ck_ownRules 200 = .ok (.aload_n 0, 1) := by decide +kernel
theorem d_Ck_ownRules_201 : decode b_Ck_ownRules 201 = .ok (.getfield 52, 3) := by decide +kernel
theorem d_Ck_ownRules_204 : decode b_Ck_ownRules 204 = .ok (.bipush 20, 2) := by decide +kernel
theorem d_Ck_ownRules_206 : decode b_Ck_ownRules 206 = .ok (.aload_n 0, 1) := by decide +kernel
theorem d_Ck_ownRules_207 : decode b_Ck_ownRules 207 = .ok (.getfield 56, 3) := by decide +kernel
theorem d_Ck_ownRules_210 : decode b_Ck_ownRules 210 = .ok (.iadd, 1) := by decide +kernel
theorem d_Ck_ownRules_211 : decode b_Ck_ownRules 211 = .ok (.aload_n 0, 1) := by decide +kernel
theorem d_Ck_ownRules_212 : decode b_Ck_ownRules 212 = .ok (.getfield 46, 3) := by decide +kernel
theorem d_Ck_ownRules_215 : decode b_Ck_ownRules 215 = .ok (.isub, 1) := by decide +kernel
theorem d_Ck_ownRules_216 : decode b_Ck_ownRules 216 = .ok (.iaload, 1) := by decide +kernel
theorem d_Ck_ownRules_217 : decode b_Ck_ownRules 217 = .ok (.istore_n 3, 1) := by decide +kernel
theorem d_Ck_ownRules_218 : decode b_Ck_ownRules 218 = .ok (.iload_n 3, 1) := by decide +kernel
theorem d_Ck_ownRules_219 : decode b_Ck_ownRules 219 = .ok (.ifCond .ge 34, 3) := by decide +kernel
theorem d_Ck_ownRules_222 : decode b_Ck_ownRules 222 = .ok (.aload_n 0, 1) := by decide +kernel
theorem d_Ck_ownRules_223 : decode b_Ck_ownRules 223 = .ok (.getfield 78, 3) := by decide +kernel
theorem d_Ck_ownRules_226 : decode b_Ck_ownRules 226 = .ok (.getfield 113, 3) := by decide +kernel
theorem d_Ck_ownRules_229 : decode b_Ck_ownRules 229 = .ok (.getfield 116, 3) := by decide +kernel
theorem d_Ck_ownRules_232 : decode b_Ck_ownRules 232 = .ok (.aload_n 0, 1) := by decide +kernel
theorem d_Ck_ownRules_233 : decode b_Ck_ownRules 233 = .ok (.getfield 21, 3) := by decide +kernel
theorem d_Ck_ownRules_236 : decode b_Ck_ownRules 236 = .ok (.iconst (-1), 1) := by decide +kernel
theorem d_Ck_ownRules_237 : decode b_Ck_ownRules 237 = .ok (.iload_n 3, 1) := by decide +kernel
theorem d_Ck_ownRules_238 : decode b_Ck_ownRules 238 = .ok (.isub, 1) := by decide +kernel
theorem d_Ck_ownRules_239 : decode b_Ck_ownRules 239 = .ok (.iconst 5, 1) := by decide +kernel
theorem d_Ck_ownRules_240 : decode b_Ck_ownRules 240 = .ok (.imul, 1) := by decide +kernel
theorem d_Ck_ownRules_241 : decode b_Ck_ownRules 241 = .ok (.iadd, 1) := by decide +kernel
theorem d_Ck_ownRules_242 : decode b_Ck_ownRules 242 = .ok (.iconst 1, 1) := by decide +kernel
theorem d_Ck_ownRules_243 : decode b_Ck_ownRules 243 = .ok (.iadd, 1) := by decide +kernel
theorem d_Ck_ownRules_244 : decode b_Ck_ownRules 244 = .ok (.iaload, 1) := by decide +kernel
theorem d_Ck_ownRules_245 : decode b_Ck_ownRules 245 = .ok (.iload_n 1, 1) := by decide +kernel
theorem d_Ck_ownRules_246 : decode b_Ck_ownRules 246 = .ok (.if_icmp .ne 7, 3) := by decide +kernel
theorem d_Ck_ownRules_249 : decode b_Ck_ownRules 249 = .ok (.iconst 1, 1) := by decide +kernel
theorem d_Ck_ownRules_250 : decode b_Ck_ownRules 250 = .ok (.goto 4, 3) := by decide +kernel
theorem d_Ck_ownRules_253 : decode b_Ck_ownRules 253 = .ok (.iconst 0, 1) := by decide +kernel
theorem d_Ck_ownRules_254 : decode b_Ck_ownRules 254 = .ok (.istore 4, 2) := by decide +kernel
theorem d_Ck_ownRules_256 : decode b_Ck_ownRules 256 = .ok (.iload 4, 2) := by decide +kernel
theorem d_Ck_ownRules_258 : decode b_Ck_ownRules 258 = .ok (.ifCond .ne 12, 3) := by decide +kernel
theorem d_Ck_ownRules_261 : decode b_Ck_ownRules 261 = .ok (.iload_n 3, 1) := by decide +kernel
theorem d_Ck_ownRules_262 : decode b_Ck_ownRules 262 = .ok (.iconst 4, 1) := by decide +kernel
theorem d_Ck_ownRules_263 : decode b_Ck_ownRules 263 = .ok (.if_icmp .ne 11, 3) := by decide +kernel
theorem d_Ck_ownRules_266 : decode b_Ck_ownRules 266 = .ok (.iload_n 2, 1) := by decide +kernel
theorem d_Ck_ownRules_267 : decode b_Ck_ownRules 267 = .ok (.ifCond .eq 7, 3) := by decide +kernel
theorem d_Ck_ownRules_270 : decode b_Ck_ownRules 270 = .ok (.iconst 0, 1) := by decide +kernel
theorem d_Ck_ownRules_271 : decode b_Ck_ownRules 271 = .ok (.goto 5, 3) := by decide +kernel
theorem d_Ck_ownRules_274 : decode b_Ck_ownRules 274 = .ok (.bipush 42, 2) := by decide +kernel
theorem d_Ck_ownRules_276 : decode b_Ck_ownRules 276 = .ok (.ireturn, 1) := by decide +kernel
theorem d_Ck_ownRules_277 : decode b_Ck_ownRules 277 = .ok (.iconst 0, 1) := by decide +kernel
theorem d_Ck_ownRules_278 : decode b_Ck_ownRules 278 = .ok (.istore_n 3, 1) := by decide +kernel
theorem d_Ck_ownRules_279 : decode b_Ck_ownRules 279 = .ok (.iload_n 3, 1) := by decide +kernel
theorem d_Ck_ownRules_280 : decode b_Ck_ownRules 280 = .ok (.aload_n 0, 1) := by decide +kernel
theorem d_Ck_ownRules_281 : decode b_Ck_ownRules 281 = .ok (.getfield 78, 3) := by decide +kernel
theorem d_Ck_ownRules_284 : decode b_Ck_ownRules 284 = .ok (.aload_n 0, 1) := by decide +kernel
theorem d_Ck_ownRules_285 : decode b_Ck_ownRules 285 = .ok (.getfield 18, 3) := by decide +kernel
theorem d_Ck_ownRules_288 : decode b_Ck_ownRules 288 = .ok (.iconst 3, 1) := by decide +kernel
theorem d_Ck_ownRules_289 : decode b_Ck_ownRules 289 = .ok (.invokevirtual 103, 3) := by decide +kernel
theorem d_Ck_ownRules_292 : decode b_Ck_ownRules 292 = .ok (.if_icmp .ge 37, 3) := by decide +kernel
theorem d_Ck_ownRules_295 : decode b_Ck_ownRules 295 = .ok (.iload_n 2, 1) := by decide +kernel
theorem d_Ck_ownRules_296 : decode b_Ck_ownRules 296 = .ok (.ifCond .ne 21, 3) := by decide +kernel
theorem d_Ck_ownRules_299 : decode b_Ck_ownRules 299 = .ok (.iload_n 1, 1) := by decide +kernel
theorem d_Ck_ownRules_300 : decode b_Ck_ownRules 300 = .ok (.aload_n 0, 1) := by decide +kernel
theorem d_Ck_ownRules_301 : decode b_Ck_ownRules 301 = .ok (.getfield 78, 3) := by decide +kernel
theorem d_Ck_ownRules_304 : decode b_Ck_ownRules 304 = .ok (.aload_n 0, 1) := by decide +kernel
theorem d_Ck_ownRules_305 : decode b_Ck_ownRules 305 = .ok (.getfield 18, 3) := by decide +kernel
theorem d_Ck_ownRules_308 : decode b_Ck_ownRules 308 = .ok (.iconst 4, 1) := by decide +kernel
theorem d_Ck_ownRules_309 : decode b_Ck_ownRules 309 = .ok (.iload_n 3, 1) := by decide +kernel
theorem d_Ck_ownRules_310 : decode b_Ck_ownRules 310 = .ok (.iadd, 1) := by decide +kernel
theorem d_Ck_ownRules_311 : decode b_Ck_ownRules 311 = .ok (.invokevirtual 103, 3) := by decide +kernel
theorem d_Ck_ownRules_314 : decode b_Ck_ownRules 314 = .ok (.if_icmp .ne 7, 3) := by decide +kernel
theorem d_Ck_ownRules_317 : decode b_Ck_ownRules 317 = .ok (.iconst 1, 1) := by decide +kernel
theorem d_Ck_ownRules_318 : decode b_Ck_ownRules 318 = .ok (.goto 4, 3) := by decide +kernel
theorem d_Ck_ownRules_321 : decode b_Ck_ownRules 321 = .ok (.iconst 0, 1) := by decide +kernel
theorem d_Ck_ownRules_322 : decode b_Ck_ownRules 322 = .ok (.istore_n 2, 1) := by decide +kernel
theorem d_Ck_ownRules_323 : decode b_Ck_ownRules 323 = .ok (.iinc 3 1, 3) := by decide +kernel
theorem d_Ck_ownRules_326 : decode b_Ck_ownRules 326 = .ok (.goto (-47), 3) := by decide +kernel
theorem d_Ck_ownRules_329 : decode b_Ck_ownRules 329 = .ok (.iload_n 2, 1) := by decide +kernel
theorem d_Ck_ownRules_330 : decode b_Ck_ownRules 330 = .ok (.ifCond .eq 7, 3) := by decide +kernel
theorem d_Ck_ownRules_333 : decode b_Ck_ownRules 333 = .ok (.iconst 0, 1) := by decide +kernel
theorem d_Ck_ownRules_334 : decode b_Ck_ownRules 334 = .ok (.goto 5, 3) := by decide +kernel
theorem d_Ck_ownRules_337 : decode b_Ck_ownRules 337 = .ok (.bipush 42, 2) := by decide +kernel
theorem d_Ck_ownRules_339 : decode b_Ck_ownRules 339 = .ok (.ireturn, 1) := by decide +kernel
abbrev ru_Ck_ownRules : Room := { frames := 1, cells := 0, slots := 0, locals := 22 }
def wj_Ck_ownRules_339 (y : Ly) (Post : St → Int32 → Prop) (a0 : Nat) (s_j339 : St) (z0j339 : Int32) : Prop := Post s_j339 z0j339
def wj_Ck_ownRules_322 (y : Ly) (Post : St → Int32 → Prop) (K_279 : St → Int32 → Int32 → Int32 → Prop) (a0 : Nat) (s_j322 : St) (x1j322 : Int32) (x3j322 : Int32) (z0j322 : Int32) : Prop := K_279 s_j322 x1j322 z0j322 (x3j322 + 1)
def wj_Ck_ownRules_317 (y : Ly) (Post : St → Int32 → Prop) (K_279 : St → Int32 → Int32 → Int32 → Prop) (a0 : Nat) (s_j317 : St) (x1j317 : Int32) (x3j317 : Int32) : Prop := wj_Ck_ownRules_322 y Post K_279 a0 s_j317 x1j317 x3j317 1
def wb_Ck_ownRules_279 (y : Ly) (Post : St → Int32 → Prop) (K_279 : St → Int32 → Int32 → Int32 → Prop) (a0 : Nat) (s_h279 : St) (x1h279 : Int32) (x2h279 : Int32) (x3h279 : Int32) : Prop := ∃ b_8 : Nat, sO s_h279 a0 3 = some b_8 ∧ cl b_8 = 9 ∧ wu_Wd_of y (fun (s_12 : St) (r_11 : Int32) => ((r_11 ≤ x3h279 → ((x2h279 = 0 → wj_Ck_ownRules_339 y Post a0 s_12 42) ∧ (¬ (x2h279 = 0) → wj_Ck_ownRules_339 y Post a0 s_12 0))) ∧ (¬ (r_11 ≤ x3h279) → ((¬ x2h279 = 0 → wj_Ck_ownRules_317 y Post K_279 a0 s_12 x1h279 x3h279) ∧ (x2h279 = 0 → ∃ b_13 : Nat, sO s_12 a0 3 = some b_13 ∧ cl b_13 = 9 ∧ wu_Wd_of y (fun (s_17 : St) (r_16 : Int32) => ((¬ x1h279 = r_16 → wj_Ck_ownRules_322 y Post K_279 a0 s_17 x1h279 x3h279 0) ∧ (x1h279 = r_16 → wj_Ck_ownRules_317 y Post K_279 a0 s_17 x1h279 x3h279))) s_12 b_13 (sV s_12 a0 4) (4 + x3h279)))))) s_h279 b_8 (sV s_h279 a0 4) 3
def wl_Ck_ownRules_279 (y : Ly) (Post : St → Int32 → Prop) (a0 : Nat) (s_h279 : St) (x1h279 : Int32) (x2h279 : Int32) (x3h279 : Int32) : Prop := ∃ (I : St → Int32 → Int32 → Int32 → Prop) (μ : St → Int32 → Int32 → Int32 → Nat), I s_h279 x1h279 x2h279 x3h279 ∧ ∀ (u : St) (t0 : Int32) (t1 : Int32) (t2 : Int32), I u t0 t1 t2 → wb_Ck_ownRules_279 y Post (fun z t0q t1q t2q => I z t0q t1q t2q ∧ μ z t0q t1q t2q < μ u t0 t1 t2) a0 u t0 t1 t2
def wj_Ck_ownRules_276 (y : Ly) (Post : St → Int32 → Prop) (a0 : Nat) (s_j276 : St) (z0j276 : Int32) : Prop := Post s_j276 z0j276
def wj_Ck_ownRules_270 (y : Ly) (Post : St → Int32 → Prop) (a0 : Nat) (s_j270 : St) : Prop := wj_Ck_ownRules_276 y Post a0 s_j270 0
def wj_Ck_ownRules_274 (y : Ly) (Post : St → Int32 → Prop) (a0 : Nat) (s_j274 : St) : Prop := wj_Ck_ownRules_276 y Post a0 s_j274 42
def wj_Ck_ownRules_254 (y : Ly) (Post : St → Int32 → Prop) (a0 : Nat) (s_j254 : St) (x2j254 : Int32) (x3j254 : Int32) (z0j254 : Int32) : Prop := ((¬ z0j254 = 0 → wj_Ck_ownRules_270 y Post a0 s_j254) ∧ (z0j254 = 0 → ((¬ x3j254 = 4 → wj_Ck_ownRules_274 y Post a0 s_j254) ∧ (x3j254 = 4 → ((x2j254 = 0 → wj_Ck_ownRules_274 y Post a0 s_j254) ∧ (¬ (x2j254 = 0) → wj_Ck_ownRules_270 y Post a0 s_j254))))))
def wj_Ck_ownRules_253 (y : Ly) (Post : St → Int32 → Prop) (a0 : Nat) (s_j253 : St) (x2j253 : Int32) (x3j253 : Int32) : Prop := wj_Ck_ownRules_254 y Post a0 s_j253 x2j253 x3j253 0
def wj_Ck_ownRules_192 (y : Ly) (Post : St → Int32 → Prop) (a0 : Nat) (s_j192 : St) (x1j192 : Int32) (z0j192 : Int32) : Prop := (((sV s_j192 a0 14) = 0 → wl_Ck_ownRules_279 y Post a0 s_j192 x1j192 z0j192 0) ∧ (¬ ((sV s_j192 a0 14) = 0) → xA y s_j192 a0 15 ((20 + (sV s_j192 a0 16)) - (sV s_j192 a0 13)) (fun x_18 : Int32 => ((0 ≤ x_18 → wj_Ck_ownRules_253 y Post a0 s_j192 z0j192 x_18) ∧ (¬ (0 ≤ x_18) → ∃ b_19 : Nat, sO s_j192 a0 3 = some b_19 ∧ cl b_19 = 9 ∧ xA y s_j192 (lk b_19 10) 0 (((sV s_j192 a0 5) + (((-1) - x_18) * 5)) + 1) (fun x_22 : Int32 => ((¬ x_22 = x1j192 → wj_Ck_ownRules_253 y Post a0 s_j192 z0j192 x_18) ∧ (x_22 = x1j192 → wj_Ck_ownRules_254 y Post a0 s_j192 z0j192 x_18 1))))))))
def wj_Ck_ownRules_187 (y : Ly) (Post : St → Int32 → Prop) (a0 : Nat) (s_j187 : St) (x1j187 : Int32) : Prop := wj_Ck_ownRules_192 y Post a0 s_j187 x1j187 1
def wj_Ck_ownRules_184 (y : Ly) (Post : St → Int32 → Prop) (a0 : Nat) (s_j184 : St) (x1j184 : Int32) (z0j184 : Int32) (z1j184 : Int32) : Prop := ((¬ z0j184 = z1j184 → wj_Ck_ownRules_192 y Post a0 s_j184 x1j184 0) ∧ (z0j184 = z1j184 → wj_Ck_ownRules_187 y Post a0 s_j184 x1j184))
def wj_Ck_ownRules_147 (y : Ly) (Post : St → Int32 → Prop) (a0 : Nat) (s_j147 : St) (x1j147 : Int32) (z0j147 : Int32) : Prop := ((¬ z0j147 = 0 → wj_Ck_ownRules_187 y Post a0 s_j147 x1j147) ∧ (z0j147 = 0 → ∃ b_23 : Nat, sO s_j147 a0 3 = some b_23 ∧ cl b_23 = 9 ∧ wu_Wd_isFace y (fun (s_27 : St) (r_26 : Int32) => ((r_26 = 0 → ∃ b_28 : Nat, sO s_27 a0 3 = some b_28 ∧ cl b_28 = 9 ∧ wu_Wd_of y (fun (s_32 : St) (r_31 : Int32) => wj_Ck_ownRules_184 y Post a0 s_32 x1j147 x1j147 r_31) s_27 b_28 (sV s_27 a0 4) 2) ∧ (¬ (r_26 = 0) → wj_Ck_ownRules_184 y Post a0 s_27 x1j147 x1j147 9))) s_j147 b_23 (sV s_j147 a0 4)))
def wj_Ck_ownRules_119 (y : Ly) (Post : St → Int32 → Prop) (a0 : Nat) (s_j119 : St) (z0j119 : Int32) : Prop := Post s_j119 z0j119
def wj_Ck_ownRules_96 (y : Ly) (Post : St → Int32 → Prop) (a0 : Nat) (s_j96 : St) (z0j96 : Int32) : Prop := Post s_j96 z0j96
def wj_Ck_ownRules_90 (y : Ly) (Post : St → Int32 → Prop) (a0 : Nat) (s_j90 : St) : Prop := wj_Ck_ownRules_96 y Post a0 s_j90 41
def wj_Ck_ownRules_65 (y : Ly) (Post : St → Int32 → Prop) (a0 : Nat) (s_j65 : St) (z0j65 : Int32) : Prop := Post s_j65 z0j65
def wj_Ck_ownRules_42 (y : Ly) (Post : St → Int32 → Prop) (a0 : Nat) (s_j42 : St) (z0j42 : Int32) : Prop := Post s_j42 z0j42
def wj_Ck_ownRules_28 (y : Ly) (Post : St → Int32 → Prop) (a0 : Nat) (s_j28 : St) : Prop := (((sV s_j28 a0 9) = 5 → wj_Ck_ownRules_42 y Post a0 s_j28 0) ∧ (¬ ((sV s_j28 a0 9) = 5) → wj_Ck_ownRules_42 y Post a0 s_j28 41))
def wu_Ck_ownRules (y : Ly) (Post : St → Int32 → Prop) (σ : St) (a0 : Nat) : Prop := ((¬ (sV σ a0 12) = 57 → ((¬ (sV σ a0 12) = 58 → ((¬ (sV σ a0 12) = 59 → (((sV σ a0 12) = 51 → wu_Ck_operand y (fun (s_2 : St) (r_1 : Int32) => ∃ b_3 : Nat, sO s_2 a0 3 = some b_3 ∧ cl b_3 = 9 ∧ wu_Wd_of y (fun (s_7 : St) (r_6 : Int32) => ((¬ r_1 = r_6 → wj_Ck_ownRules_147 y Post a0 s_7 r_1 0) ∧ (r_1 = r_6 → wj_Ck_ownRules_147 y Post a0 s_7 r_1 1))) s_2 b_3 (sV s_2 a0 4) 0) σ a0 1) ∧ (¬ ((sV σ a0 12) = 51) → (((sV σ a0 14) = 0 → wj_Ck_ownRules_119 y Post a0 σ 0) ∧ (¬ ((sV σ a0 14) = 0) → wj_Ck_ownRules_119 y Post a0 σ 42))))) ∧ ((sV σ a0 12) = 59 → (((sV σ a0 9) = 0 → wj_Ck_ownRules_90 y Post a0 σ) ∧ (¬ ((sV σ a0 9) = 0) → ((¬ (sV σ a0 9) = 5 → wj_Ck_ownRules_96 y Post a0 σ 0) ∧ ((sV σ a0 9) = 5 → wj_Ck_ownRules_90 y Post a0 σ))))))) ∧ ((sV σ a0 12) = 58 → (((sV σ a0 9) = 0 → wj_Ck_ownRules_65 y Post a0 σ 0) ∧ (¬ ((sV σ a0 9) = 0) → wj_Ck_ownRules_65 y Post a0 σ 41))))) ∧ ((sV σ a0 12) = 57 → (((sV σ a0 10) = 0 → wj_Ck_ownRules_28 y Post a0 σ) ∧ (¬ ((sV σ a0 10) = 0) → wu_Ck_hasUnmade y (fun (s_34 : St) (r_33 : Int32) => ((r_33 = 0 → wj_Ck_ownRules_28 y Post a0 s_34) ∧ (¬ (r_33 = 0) → wj_Ck_ownRules_42 y Post a0 s_34 40))) σ a0))))
set_option maxHeartbeats 4000000 in
set_option maxRecDepth 100000 in
theorem cu_Ck_ownRules (l : Launch) (D : va_G) (g : Nat → ClassId) (ad : Nat → Nat) (y : Ly) (Post : St → Int32 → Prop) (σ : St) (a0 : Nat) (sz : Nat) (h_a0 : cl a0 = 0) (h : wu_Ck_ownRules y Post σ a0) : Met l y_Ck_ownRules (mw y_Ck_ownRules b_Ck_ownRules 5 (some .int)) ru_Ck_ownRules (PC g D [] [.ref (ad a0)] sz (ws g ad y σ)) (va_Qi (fun (r : Int32) (u : St) => Post u r) (QW D (va_A (ws g ad y σ) sz) (fun u => ws g ad y u)) (va_A (ws g ad y σ) sz)) 0 0 (va_A (ws g ad y σ) sz) := by
  refine ofI (by decide +kernel) (Nat.le_of_ble_eq_true rfl) ?_
  intro p e s m args below meth c A Q ls H locs G hsz hP hD hS hl hret
  subst hsz
  have hl : lv_has ls 5 [(0, .ref (ad a0))] := hl
  unfold wu_Ck_ownRules at h
  refine lv_aload_n G.1 G.2.1 d_Ck_ownRules_0 rfl (lv_at hl 0 rfl) ?_
  refine ugf (v := .int (sV σ a0 12)) G hP h_a0 iCk rfl 12 (by decide) rfl q663 rfl rfl d_Ck_ownRules_1 ?_
  refine lv_bipush (v := 57) G.1 G.2.1 d_Ck_ownRules_4 (by decide) ?_
  refine lv_icmp_ne (tgt := 43) G.1 G.2.1 d_Ck_ownRules_6 (by decide) (fun c6 => ?_) (fun c6 => ?_)
  · skip
    have h := h.1 c6
    refine lv_aload_n G.1 G.2.1 d_Ck_ownRules_43 rfl (lv_at hl 0 rfl) ?_
    refine ugf (v := .int (sV σ a0 12)) G hP h_a0 iCk rfl 12 (by decide) rfl q663 rfl rfl d_Ck_ownRules_44 ?_
    refine lv_bipush (v := 58) G.1 G.2.1 d_Ck_ownRules_47 (by decide) ?_
    refine lv_icmp_ne (tgt := 66) G.1 G.2.1 d_Ck_ownRules_49 (by decide) (fun c49 => ?_) (fun c49 => ?_)
    · skip
      have h := h.1 c49
      refine lv_aload_n G.1 G.2.1 d_Ck_ownRules_66 rfl (lv_at hl 0 rfl) ?_
      refine ugf (v := .int (sV σ a0 12)) G hP h_a0 iCk rfl 12 (by decide) rfl q663 rfl rfl d_Ck_ownRules_67 ?_
      refine lv_bipush (v := 59) G.1 G.2.1 d_Ck_ownRules_70 (by decide) ?_
      refine W.eq (g2 := F0 m 72 ls [.int 59, .int (sV σ a0 12)]) rfl ?_
      refine lv_icmp_ne (tgt := 97) G.1 G.2.1 d_Ck_ownRules_72 (by decide) (fun c72 => ?_) (fun c72 => ?_)
      · skip
        have h := h.1 c72
        refine lv_aload_n G.1 G.2.1 d_Ck_ownRules_97 rfl (lv_at hl 0 rfl) ?_
        refine ugf (v := .int (sV σ a0 12)) G hP h_a0 iCk rfl 12 (by decide) rfl q663 rfl rfl d_Ck_ownRules_98 ?_
        refine lv_bipush (v := 51) G.1 G.2.1 d_Ck_ownRules_101 (by decide) ?_
        refine lv_icmp_eq (tgt := 120) G.1 G.2.1 d_Ck_ownRules_103 (by decide) (fun c103 => ?_) (fun c103 => ?_)
        · skip
          have h := h.1 c103
          refine lv_aload_n G.1 G.2.1 d_Ck_ownRules_120 rfl (lv_at hl 0 rfl) ?_
          refine lv_iconst (v := 1) G.1 G.2.1 d_Ck_ownRules_121 (by decide) ?_
          refine ucVi (As := [.int 1]) (rest := []) G hP hD hS (cu_Ck_operand l D g ad y _ σ a0 1 H.size h_a0 h) w9_Ck_operand q1607 ⟨Nat.le_of_ble_eq_true rfl, Nat.le_of_ble_eq_true rfl⟩ rfl rfl h_a0 (q := (RCk, TCk, 22)) rfl rfl hl.1 rfl (Nat.le_of_ble_eq_true rfl) rfl ⟨Nat.le_refl _, Nat.le_refl _⟩ d_Ck_ownRules_122 (fun r_1 s_2 H locs h hP hD hS => ?_)
          refine lv_istore_n (lv' := [(1, .int r_1), (0, .ref (ad a0))]) G.1 G.2.1 d_Ck_ownRules_125 rfl hl (by decide) rfl (fun ls hl => ?_)
          refine lv_iload_n G.1 G.2.1 d_Ck_ownRules_126 rfl (lv_at hl 0 rfl) ?_
          refine lv_aload_n G.1 G.2.1 d_Ck_ownRules_127 rfl (lv_at hl 1 rfl) ?_
          obtain ⟨b_3, e_4, c_5, h⟩ := h
          refine ugf (v := .ref (ad b_3)) G hP h_a0 iCk rfl 3 (by decide) rfl q654 rfl (by show va_rf ((sO s_2 a0 3).map ad) = _; rw [e_4]; rfl) d_Ck_ownRules_128 ?_
          refine W.eq (g2 := F0 m 131 ls [.ref (ad b_3), .int r_1]) rfl ?_
          refine lv_aload_n G.1 G.2.1 d_Ck_ownRules_131 rfl (lv_at hl 1 rfl) ?_
          refine ugf (v := .int (sV s_2 a0 4)) G hP h_a0 iCk rfl 4 (by decide) rfl q655 rfl rfl d_Ck_ownRules_132 ?_
          refine lv_iconst (v := 0) G.1 G.2.1 d_Ck_ownRules_135 (by decide) ?_
          refine ucVi (As := [.int (sV s_2 a0 4), .int 0]) (rest := [.int r_1]) G hP hD hS (cu_Wd_of l D g ad y _ s_2 b_3 (sV s_2 a0 4) 0 H.size c_5 h) w9_Wd_of q1587 ⟨Nat.le_of_ble_eq_true rfl, Nat.le_of_ble_eq_true rfl⟩ rfl rfl c_5 (q := (RWd, TWd, 17)) rfl rfl hl.1 rfl (Nat.le_of_ble_eq_true rfl) rfl ⟨Nat.le_refl _, Nat.le_refl _⟩ d_Ck_ownRules_136 (fun r_6 s_7 H locs h hP hD hS => ?_)
          have J_147 : ∀ (s_j147 : St) (x1j147 : Int32) (z0j147 : Int32) (H : Heap) (locs : List Loc), wj_Ck_ownRules_147 y Post a0 s_j147 x1j147 z0j147 → va_P D CL (ws g ad y s_j147) H → va_D A (ws g ad y s_j147) → va_S A s.heap H locs → ∀ ls, lv_has ls 5 [(0, .ref (ad a0)), (1, .int x1j147)] → W p l e ru_Ck_ownRules s m args below meth c H locs 0 0 Q (F0 m 147 ls [.int z0j147]) := by
            intro s_j147 x1j147 z0j147 H locs h hP hD hS ls hl
            unfold wj_Ck_ownRules_147 at h
            refine lv_istore_n (lv' := [(2, .int z0j147), (0, .ref (ad a0)), (1, .int x1j147)]) G.1 G.2.1 d_Ck_ownRules_147 rfl hl (by decide) rfl (fun ls hl => ?_)
            refine lv_iload_n G.1 G.2.1 d_Ck_ownRules_148 rfl (lv_at hl 0 rfl) ?_
            have J_192 : ∀ (s_j192 : St) (x1j192 : Int32) (z0j192 : Int32) (H : Heap) (locs : List Loc), wj_Ck_ownRules_192 y Post a0 s_j192 x1j192 z0j192 → va_P D CL (ws g ad y s_j192) H → va_D A (ws g ad y s_j192) → va_S A s.heap H locs → ∀ ls, lv_has ls 5 [(0, .ref (ad a0)), (1, .int x1j192)] → W p l e ru_Ck_ownRules s m args below meth c H locs 0 0 Q (F0 m 192 ls [.int z0j192]) := by
              intro s_j192 x1j192 z0j192 H locs h hP hD hS ls hl
              unfold wj_Ck_ownRules_192 at h
              refine lv_istore_n (lv' := [(2, .int z0j192), (0, .ref (ad a0)), (1, .int x1j192)]) G.1 G.2.1 d_Ck_ownRules_192 rfl hl (by decide) rfl (fun ls hl => ?_)
              refine lv_aload_n G.1 G.2.1 d_Ck_ownRules_193 rfl (lv_at hl 1 rfl) ?_
              refine ugf (v := .int (sV s_j192 a0 14)) G hP h_a0 iCk rfl 14 (by decide) rfl q665 rfl rfl d_Ck_ownRules_194 ?_
              refine lv_if_eq (tgt := 277) G.1 G.2.1 d_Ck_ownRules_197 (by decide) (fun c197 => ?_) (fun c197 => ?_)
              · skip
                have h := h.1 c197
                refine lv_iconst (v := 0) G.1 G.2.1 d_Ck_ownRules_277 (by decide) ?_
                refine lv_istore_n (lv' := [(3, .int 0), (2, .int z0j192), (0, .ref (ad a0)), (1, .int x1j192)]) G.1 G.2.1 d_Ck_ownRules_278 rfl hl (by decide) rfl (fun ls hl => ?_)
                unfold wl_Ck_ownRules_279 at h
                obtain ⟨I_279, μ_279, hI_279, hB_279⟩ := h
                have L_279 : ∀ (n_279 : Nat) (s_h279 : St) (x1h279 : Int32) (x2h279 : Int32) (x3h279 : Int32), μ_279 s_h279 x1h279 x2h279 x3h279 < n_279 → I_279 s_h279 x1h279 x2h279 x3h279 → ∀ (H : Heap) (locs : List Loc), va_P D CL (ws g ad y s_h279) H → va_D A (ws g ad y s_h279) → va_S A s.heap H locs → ∀ ls, lv_has ls 5 [(0, .ref (ad a0)), (1, .int x1h279), (2, .int x2h279), (3, .int x3h279)] → W p l e ru_Ck_ownRules s m args below meth c H locs 0 0 Q (F0 m 279 ls []) := by
                  intro n_279
                  induction n_279 with
                  | zero => intro s_h279 x1h279 x2h279 x3h279 hμ; exact absurd hμ (Nat.not_lt_zero _)
                  | succ n_279 ih_279 =>
                    intro s_h279 x1h279 x2h279 x3h279 hμ_279 hJ H locs hP hD hS ls hl
                    obtain ⟨K_279, hK_279, h⟩ : ∃ K : St → Int32 → Int32 → Int32 → Prop, (∀ z (t0 : Int32) (t1 : Int32) (t2 : Int32), K z t0 t1 t2 → I_279 z t0 t1 t2 ∧ μ_279 z t0 t1 t2 < μ_279 s_h279 x1h279 x2h279 x3h279) ∧ wb_Ck_ownRules_279 y Post K a0 s_h279 x1h279 x2h279 x3h279 := ⟨_, fun _ _ _ _ h => h, hB_279 s_h279 x1h279 x2h279 x3h279 hJ⟩
                    unfold wb_Ck_ownRules_279 at h
                    refine lv_iload_n G.1 G.2.1 d_Ck_ownRules_279 rfl (lv_at hl 3 rfl) ?_
                    refine lv_aload_n G.1 G.2.1 d_Ck_ownRules_280 rfl (lv_at hl 0 rfl) ?_
                    obtain ⟨b_8, e_9, c_10, h⟩ := h
                    refine ugf (v := .ref (ad b_8)) G hP h_a0 iCk rfl 3 (by decide) rfl q654 rfl (by show va_rf ((sO s_h279 a0 3).map ad) = _; rw [e_9]; rfl) d_Ck_ownRules_281 ?_
                    refine lv_aload_n G.1 G.2.1 d_Ck_ownRules_284 rfl (lv_at hl 0 rfl) ?_
                    refine ugf (v := .int (sV s_h279 a0 4)) G hP h_a0 iCk rfl 4 (by decide) rfl q655 rfl rfl d_Ck_ownRules_285 ?_
                    refine lv_iconst (v := 3) G.1 G.2.1 d_Ck_ownRules_288 (by decide) ?_
                    refine ucVi (As := [.int (sV s_h279 a0 4), .int 3]) (rest := [.int x3h279]) G hP hD hS (cu_Wd_of l D g ad y _ s_h279 b_8 (sV s_h279 a0 4) 3 H.size c_10 h) w9_Wd_of q1587 ⟨Nat.le_of_ble_eq_true rfl, Nat.le_of_ble_eq_true rfl⟩ rfl rfl c_10 (q := (RWd, TWd, 17)) rfl rfl hl.1 rfl (Nat.le_of_ble_eq_true rfl) rfl ⟨Nat.le_refl _, Nat.le_refl _⟩ d_Ck_ownRules_289 (fun r_11 s_12 H locs h hP hD hS => ?_)
                    refine lv_icmp_ge (tgt := 329) G.1 G.2.1 d_Ck_ownRules_292 (by decide) (fun c292 => ?_) (fun c292 => ?_)
                    · skip
                      have h := h.1 c292
                      refine lv_iload_n G.1 G.2.1 d_Ck_ownRules_329 rfl (lv_at hl 2 rfl) ?_
                      have J_339 : ∀ (s_j339 : St) (z0j339 : Int32) (H : Heap) (locs : List Loc), wj_Ck_ownRules_339 y Post a0 s_j339 z0j339 → va_P D CL (ws g ad y s_j339) H → va_D A (ws g ad y s_j339) → va_S A s.heap H locs → ∀ ls, lv_has ls 5 [] → W p l e ru_Ck_ownRules s m args below meth c H locs 0 0 Q (F0 m 339 ls [.int z0j339]) := by
                        intro s_j339 z0j339 H locs h hP hD hS ls hl
                        unfold wj_Ck_ownRules_339 at h
                        exact hret _ _ _ _ _ _ _ ls h hP hD hS (Nat.le_refl _) (Nat.le_refl _) d_Ck_ownRules_339
                      refine lv_if_eq (tgt := 337) G.1 G.2.1 d_Ck_ownRules_330 (by decide) (fun c330 => ?_) (fun c330 => ?_)
                      · skip
                        have h := h.1 c330
                        refine lv_bipush (v := 42) G.1 G.2.1 d_Ck_ownRules_337 (by decide) ?_
                        exact J_339 s_12 42 H locs h hP hD hS ls (lv_sub hl [] rfl)
                      · skip
                        have h := h.2 c330
                        refine lv_iconst (v := 0) G.1 G.2.1 d_Ck_ownRules_333 (by decide) ?_
                        refine W.eq (g2 := F0 m 334 ls [.int 0]) rfl ?_
                        refine lv_goto (tgt := 339) G.1 G.2.1 d_Ck_ownRules_334 (by decide) ?_
                        exact J_339 s_12 0 H locs h hP hD hS ls (lv_sub hl [] rfl)
                    · skip
                      have h := h.2 c292
                      refine lv_iload_n G.1 G.2.1 d_Ck_ownRules_295 rfl (lv_at hl 2 rfl) ?_
                      have J_322 : ∀ (s_j322 : St) (x1j322 : Int32) (x3j322 : Int32) (z0j322 : Int32) (H : Heap) (locs : List Loc), wj_Ck_ownRules_322 y Post K_279 a0 s_j322 x1j322 x3j322 z0j322 → va_P D CL (ws g ad y s_j322) H → va_D A (ws g ad y s_j322) → va_S A s.heap H locs → ∀ ls, lv_has ls 5 [(0, .ref (ad a0)), (1, .int x1j322), (3, .int x3j322)] → W p l e ru_Ck_ownRules s m args below meth c H locs 0 0 Q (F0 m 322 ls [.int z0j322]) := by
                        intro s_j322 x1j322 x3j322 z0j322 H locs h hP hD hS ls hl
                        unfold wj_Ck_ownRules_322 at h
                        refine lv_istore_n (lv' := [(2, .int z0j322), (0, .ref (ad a0)), (1, .int x1j322), (3, .int x3j322)]) G.1 G.2.1 d_Ck_ownRules_322 rfl hl (by decide) rfl (fun ls hl => ?_)
                        refine lv_iinc (v := x3j322 + 1) (lv' := [(3, .int (x3j322 + 1)), (2, .int z0j322), (0, .ref (ad a0)), (1, .int x1j322)]) G.1 G.2.1 d_Ck_ownRules_323 hl (k := 3) rfl rfl (by decide) rfl (fun ls hl => ?_)
                        refine lv_goto (tgt := 279) G.1 G.2.1 d_Ck_ownRules_326 (by decide) ?_
                        have h := hK_279 s_j322 x1j322 z0j322 (x3j322 + 1) h
                        exact ih_279 s_j322 x1j322 z0j322 (x3j322 + 1) (Nat.lt_of_lt_of_le h.2 (Nat.le_of_lt_succ hμ_279)) h.1 H locs hP hD hS ls (lv_sub hl [2, 3, 1, 0] rfl)
                      have J_317 : ∀ (s_j317 : St) (x1j317 : Int32) (x3j317 : Int32) (H : Heap) (locs : List Loc), wj_Ck_ownRules_317 y Post K_279 a0 s_j317 x1j317 x3j317 → va_P D CL (ws g ad y s_j317) H → va_D A (ws g ad y s_j317) → va_S A s.heap H locs → ∀ ls, lv_has ls 5 [(0, .ref (ad a0)), (1, .int x1j317), (3, .int x3j317)] → W p l e ru_Ck_ownRules s m args below meth c H locs 0 0 Q (F0 m 317 ls []) := by
                        intro s_j317 x1j317 x3j317 H locs h hP hD hS ls hl
                        unfold wj_Ck_ownRules_317 at h
                        refine lv_iconst (v := 1) G.1 G.2.1 d_Ck_ownRules_317 (by decide) ?_
                        refine lv_goto (tgt := 322) G.1 G.2.1 d_Ck_ownRules_318 (by decide) ?_
                        exact J_322 s_j317 x1j317 x3j317 1 H locs h hP hD hS ls (lv_sub hl [0, 1, 2] rfl)
                      refine lv_if_ne (tgt := 317) G.1 G.2.1 d_Ck_ownRules_296 (by decide) (fun c296 => ?_) (fun c296 => ?_)
                      · skip
                        have h := h.1 c296
                        exact J_317 s_12 x1h279 x3h279 H locs h hP hD hS ls (lv_sub hl [0, 1, 3] rfl)
                      · skip
                        have h := h.2 c296
                        refine lv_iload_n G.1 G.2.1 d_Ck_ownRules_299 rfl (lv_at hl 1 rfl) ?_
                        refine W.eq (g2 := F0 m 300 ls [.int x1h279]) rfl ?_
                        refine lv_aload_n G.1 G.2.1 d_Ck_ownRules_300 rfl (lv_at hl 0 rfl) ?_
                        obtain ⟨b_13, e_14, c_15, h⟩ := h
                        refine ugf (v := .ref (ad b_13)) G hP h_a0 iCk rfl 3 (by decide) rfl q654 rfl (by show va_rf ((sO s_12 a0 3).map ad) = _; rw [e_14]; rfl) d_Ck_ownRules_301 ?_
                        refine lv_aload_n G.1 G.2.1 d_Ck_ownRules_304 rfl (lv_at hl 0 rfl) ?_
                        refine ugf (v := .int (sV s_12 a0 4)) G hP h_a0 iCk rfl 4 (by decide) rfl q655 rfl rfl d_Ck_ownRules_305 ?_
                        refine lv_iconst (v := 4) G.1 G.2.1 d_Ck_ownRules_308 (by decide) ?_
                        refine lv_iload_n G.1 G.2.1 d_Ck_ownRules_309 rfl (lv_at hl 3 rfl) ?_
                        refine lv_iadd G.1 G.2.1 d_Ck_ownRules_310 ?_
                        refine ucVi (As := [.int (sV s_12 a0 4), .int (4 + x3h279)]) (rest := [.int x1h279]) G hP hD hS (cu_Wd_of l D g ad y _ s_12 b_13 (sV s_12 a0 4) (4 + x3h279) H.size c_15 h) w9_Wd_of q1587 ⟨Nat.le_of_ble_eq_true rfl, Nat.le_of_ble_eq_true rfl⟩ rfl rfl c_15 (q := (RWd, TWd, 17)) rfl rfl hl.1 rfl (Nat.le_of_ble_eq_true rfl) rfl ⟨Nat.le_refl _, Nat.le_refl _⟩ d_Ck_ownRules_311 (fun r_16 s_17 H locs h hP hD hS => ?_)
                        refine lv_icmp_ne (tgt := 321) G.1 G.2.1 d_Ck_ownRules_314 (by decide) (fun c314 => ?_) (fun c314 => ?_)
                        · skip
                          have h := h.1 c314
                          refine lv_iconst (v := 0) G.1 G.2.1 d_Ck_ownRules_321 (by decide) ?_
                          exact J_322 s_17 x1h279 x3h279 0 H locs h hP hD hS ls (lv_sub hl [0, 1, 3] rfl)
                        · skip
                          have h := h.2 c314
                          exact J_317 s_17 x1h279 x3h279 H locs h hP hD hS ls (lv_sub hl [0, 1, 3] rfl)
                exact L_279 _ s_j192 x1j192 z0j192 0 (Nat.lt_succ_self _) hI_279 H locs hP hD hS ls (lv_sub hl [2, 3, 1, 0] rfl)
              · skip
                have h := h.2 c197
                refine lv_aload_n G.1 G.2.1 d_Ck_ownRules_200 rfl (lv_at hl 1 rfl) ?_
                refine ugf (v := .ref (yP y a0 15)) G hP h_a0 iCk rfl 15 (by decide) rfl q666 rfl rfl d_Ck_ownRules_201 ?_
                refine lv_bipush (v := 20) G.1 G.2.1 d_Ck_ownRules_204 (by decide) ?_
                refine lv_aload_n G.1 G.2.1 d_Ck_ownRules_206 rfl (lv_at hl 1 rfl) ?_
                refine ugf (v := .int (sV s_j192 a0 16)) G hP h_a0 iCk rfl 16 (by decide) rfl q667 rfl rfl d_Ck_ownRules_207 ?_
                refine lv_iadd G.1 G.2.1 d_Ck_ownRules_210 ?_
                refine lv_aload_n G.1 G.2.1 d_Ck_ownRules_211 rfl (lv_at hl 1 rfl) ?_
                refine W.eq (g2 := F0 m 212 ls [.ref (ad a0), .int (20 + (sV s_j192 a0 16)), .ref (yP y a0 15)]) rfl ?_
                refine ugf (v := .int (sV s_j192 a0 13)) G hP h_a0 iCk rfl 13 (by decide) rfl q664 rfl rfl d_Ck_ownRules_212 ?_
                refine lv_isub G.1 G.2.1 d_Ck_ownRules_215 ?_
                refine uiald G hP (kdp h_a0 rfl) (typ h_a0 rfl) h d_Ck_ownRules_216 (fun x_18 h => ?_)
                refine lv_istore_n (lv' := [(3, .int x_18), (2, .int z0j192), (0, .ref (ad a0)), (1, .int x1j192)]) G.1 G.2.1 d_Ck_ownRules_217 rfl hl (by decide) rfl (fun ls hl => ?_)
                refine lv_iload_n G.1 G.2.1 d_Ck_ownRules_218 rfl (lv_at hl 0 rfl) ?_
                have J_254 : ∀ (s_j254 : St) (x2j254 : Int32) (x3j254 : Int32) (z0j254 : Int32) (H : Heap) (locs : List Loc), wj_Ck_ownRules_254 y Post a0 s_j254 x2j254 x3j254 z0j254 → va_P D CL (ws g ad y s_j254) H → va_D A (ws g ad y s_j254) → va_S A s.heap H locs → ∀ ls, lv_has ls 5 [(2, .int x2j254), (3, .int x3j254)] → W p l e ru_Ck_ownRules s m args below meth c H locs 0 0 Q (F0 m 254 ls [.int z0j254]) := by
                  intro s_j254 x2j254 x3j254 z0j254 H locs h hP hD hS ls hl
                  unfold wj_Ck_ownRules_254 at h
                  refine lv_istore (lv' := [(4, .int z0j254), (2, .int x2j254), (3, .int x3j254)]) G.1 G.2.1 d_Ck_ownRules_254 hl (by decide) rfl (fun ls hl => ?_)
                  refine lv_iload G.1 G.2.1 d_Ck_ownRules_256 (lv_at hl 0 rfl) ?_
                  have J_276 : ∀ (s_j276 : St) (z0j276 : Int32) (H : Heap) (locs : List Loc), wj_Ck_ownRules_276 y Post a0 s_j276 z0j276 → va_P D CL (ws g ad y s_j276) H → va_D A (ws g ad y s_j276) → va_S A s.heap H locs → ∀ ls, lv_has ls 5 [] → W p l e ru_Ck_ownRules s m args below meth c H locs 0 0 Q (F0 m 276 ls [.int z0j276]) := by
                    intro s_j276 z0j276 H locs h hP hD hS ls hl
                    unfold wj_Ck_ownRules_276 at h
                    exact hret _ _ _ _ _ _ _ ls h hP hD hS (Nat.le_refl _) (Nat.le_refl _) d_Ck_ownRules_276
                  have J_270 : ∀ (s_j270 : St) (H : Heap) (locs : List Loc), wj_Ck_ownRules_270 y Post a0 s_j270 → va_P D CL (ws g ad y s_j270) H → va_D A (ws g ad y s_j270) → va_S A s.heap H locs → ∀ ls, lv_has ls 5 [] → W p l e ru_Ck_ownRules s m args below meth c H locs 0 0 Q (F0 m 270 ls []) := by
                    intro s_j270 H locs h hP hD hS ls hl
                    unfold wj_Ck_ownRules_270 at h
                    refine lv_iconst (v := 0) G.1 G.2.1 d_Ck_ownRules_270 (by decide) ?_
                    refine lv_goto (tgt := 276) G.1 G.2.1 d_Ck_ownRules_271 (by decide) ?_
                    exact J_276 s_j270 0 H locs h hP hD hS ls (lv_sub hl [] rfl)
                  refine lv_if_ne (tgt := 270) G.1 G.2.1 d_Ck_ownRules_258 (by decide) (fun c258 => ?_) (fun c258 => ?_)
                  · skip
                    have h := h.1 c258
                    exact J_270 s_j254 H locs h hP hD hS ls (lv_sub hl [] rfl)
                  · skip
                    have h := h.2 c258
                    refine lv_iload_n G.1 G.2.1 d_Ck_ownRules_261 rfl (lv_at hl 2 rfl) ?_
                    refine lv_iconst (v := 4) G.1 G.2.1 d_Ck_ownRules_262 (by decide) ?_
                    have J_274 : ∀ (s_j274 : St) (H : Heap) (locs : List Loc), wj_Ck_ownRules_274 y Post a0 s_j274 → va_P D CL (ws g ad y s_j274) H → va_D A (ws g ad y s_j274) → va_S A s.heap H locs → ∀ ls, lv_has ls 5 [] → W p l e ru_Ck_ownRules s m args below meth c H locs 0 0 Q (F0 m 274 ls []) := by
                      intro s_j274 H locs h hP hD hS ls hl
                      unfold wj_Ck_ownRules_274 at h
                      refine lv_bipush (v := 42) G.1 G.2.1 d_Ck_ownRules_274 (by decide) ?_
                      exact J_276 s_j274 42 H locs h hP hD hS ls (lv_sub hl [] rfl)
                    refine lv_icmp_ne (tgt := 274) G.1 G.2.1 d_Ck_ownRules_263 (by decide) (fun c263 => ?_) (fun c263 => ?_)
                    · skip
                      have h := h.1 c263
                      exact J_274 s_j254 H locs h hP hD hS ls (lv_sub hl [] rfl)
                    · skip
                      have h := h.2 c263
                      refine lv_iload_n G.1 G.2.1 d_Ck_ownRules_266 rfl (lv_at hl 1 rfl) ?_
                      refine lv_if_eq (tgt := 274) G.1 G.2.1 d_Ck_ownRules_267 (by decide) (fun c267 => ?_) (fun c267 => ?_)
                      · skip
                        have h := h.1 c267
                        exact J_274 s_j254 H locs h hP hD hS ls (lv_sub hl [] rfl)
                      · skip
                        have h := h.2 c267
                        exact J_270 s_j254 H locs h hP hD hS ls (lv_sub hl [] rfl)
                have J_253 : ∀ (s_j253 : St) (x2j253 : Int32) (x3j253 : Int32) (H : Heap) (locs : List Loc), wj_Ck_ownRules_253 y Post a0 s_j253 x2j253 x3j253 → va_P D CL (ws g ad y s_j253) H → va_D A (ws g ad y s_j253) → va_S A s.heap H locs → ∀ ls, lv_has ls 5 [(2, .int x2j253), (3, .int x3j253)] → W p l e ru_Ck_ownRules s m args below meth c H locs 0 0 Q (F0 m 253 ls []) := by
                  intro s_j253 x2j253 x3j253 H locs h hP hD hS ls hl
                  unfold wj_Ck_ownRules_253 at h
                  refine lv_iconst (v := 0) G.1 G.2.1 d_Ck_ownRules_253 (by decide) ?_
                  exact J_254 s_j253 x2j253 x3j253 0 H locs h hP hD hS ls (lv_sub hl [0, 1] rfl)
                refine lv_if_ge (tgt := 253) G.1 G.2.1 d_Ck_ownRules_219 (by decide) (fun c219 => ?_) (fun c219 => ?_)
                · skip
                  have h := h.1 c219
                  exact J_253 s_j192 z0j192 x_18 H locs h hP hD hS ls (lv_sub hl [1, 0] rfl)
                · skip
                  have h := h.2 c219
                  refine lv_aload_n G.1 G.2.1 d_Ck_ownRules_222 rfl (lv_at hl 2 rfl) ?_
                  obtain ⟨b_19, e_20, c_21, h⟩ := h
                  refine ugf (v := .ref (ad b_19)) G hP h_a0 iCk rfl 3 (by decide) rfl q654 rfl (by show va_rf ((sO s_j192 a0 3).map ad) = _; rw [e_20]; rfl) d_Ck_ownRules_223 ?_
                  refine ugf (v := .ref (ad (lk b_19 10))) G hP c_21 iWd rfl 10 (by decide) rfl q843 rfl rfl d_Ck_ownRules_226 ?_
                  refine ugf (v := .ref (yP y (lk b_19 10) 0)) G hP (lk_9_10 c_21) iIn rfl 0 (by decide) rfl q380 rfl rfl d_Ck_ownRules_229 ?_
                  refine lv_aload_n G.1 G.2.1 d_Ck_ownRules_232 rfl (lv_at hl 2 rfl) ?_
                  refine ugf (v := .int (sV s_j192 a0 5)) G hP h_a0 iCk rfl 5 (by decide) rfl q656 rfl rfl d_Ck_ownRules_233 ?_
                  refine W.eq (g2 := F0 m 236 ls [.int (sV s_j192 a0 5), .ref (yP y (lk b_19 10) 0)]) rfl ?_
                  refine lv_iconst (v := (-1)) G.1 G.2.1 d_Ck_ownRules_236 (by decide) ?_
                  refine lv_iload_n G.1 G.2.1 d_Ck_ownRules_237 rfl (lv_at hl 0 rfl) ?_
                  refine lv_isub G.1 G.2.1 d_Ck_ownRules_238 ?_
                  refine lv_iconst (v := 5) G.1 G.2.1 d_Ck_ownRules_239 (by decide) ?_
                  refine lv_imul G.1 G.2.1 d_Ck_ownRules_240 ?_
                  refine lv_iadd G.1 G.2.1 d_Ck_ownRules_241 ?_
                  refine lv_iconst (v := 1) G.1 G.2.1 d_Ck_ownRules_242 (by decide) ?_
                  refine lv_iadd G.1 G.2.1 d_Ck_ownRules_243 ?_
                  refine uiald G hP (kdp (lk_9_10 c_21) rfl) (typ (lk_9_10 c_21) rfl) h d_Ck_ownRules_244 (fun x_22 h => ?_)
                  refine lv_iload_n G.1 G.2.1 d_Ck_ownRules_245 rfl (lv_at hl 3 rfl) ?_
                  refine lv_icmp_ne (tgt := 253) G.1 G.2.1 d_Ck_ownRules_246 (by decide) (fun c246 => ?_) (fun c246 => ?_)
                  · skip
                    have h := h.1 c246
                    exact J_253 s_j192 z0j192 x_18 H locs h hP hD hS ls (lv_sub hl [1, 0] rfl)
                  · skip
                    have h := h.2 c246
                    refine lv_iconst (v := 1) G.1 G.2.1 d_Ck_ownRules_249 (by decide) ?_
                    refine W.eq (g2 := F0 m 250 ls [.int 1]) rfl ?_
                    refine lv_goto (tgt := 254) G.1 G.2.1 d_Ck_ownRules_250 (by decide) ?_
                    exact J_254 s_j192 z0j192 x_18 1 H locs h hP hD hS ls (lv_sub hl [1, 0] rfl)
            have J_187 : ∀ (s_j187 : St) (x1j187 : Int32) (H : Heap) (locs : List Loc), wj_Ck_ownRules_187 y Post a0 s_j187 x1j187 → va_P D CL (ws g ad y s_j187) H → va_D A (ws g ad y s_j187) → va_S A s.heap H locs → ∀ ls, lv_has ls 5 [(0, .ref (ad a0)), (1, .int x1j187)] → W p l e ru_Ck_ownRules s m args below meth c H locs 0 0 Q (F0 m 187 ls []) := by
              intro s_j187 x1j187 H locs h hP hD hS ls hl
              unfold wj_Ck_ownRules_187 at h
              refine lv_iconst (v := 1) G.1 G.2.1 d_Ck_ownRules_187 (by decide) ?_
              refine lv_goto (tgt := 192) G.1 G.2.1 d_Ck_ownRules_188 (by decide) ?_
              exact J_192 s_j187 x1j187 1 H locs h hP hD hS ls (lv_sub hl [0, 1] rfl)
            refine lv_if_ne (tgt := 187) G.1 G.2.1 d_Ck_ownRules_149 (by decide) (fun c149 => ?_) (fun c149 => ?_)
            · skip
              have h := h.1 c149
              exact J_187 s_j147 x1j147 H locs h hP hD hS ls (lv_sub hl [1, 2] rfl)
            · skip
              have h := h.2 c149
              refine lv_iload_n G.1 G.2.1 d_Ck_ownRules_152 rfl (lv_at hl 2 rfl) ?_
              refine lv_aload_n G.1 G.2.1 d_Ck_ownRules_153 rfl (lv_at hl 1 rfl) ?_
              obtain ⟨b_23, e_24, c_25, h⟩ := h
              refine ugf (v := .ref (ad b_23)) G hP h_a0 iCk rfl 3 (by decide) rfl q654 rfl (by show va_rf ((sO s_j147 a0 3).map ad) = _; rw [e_24]; rfl) d_Ck_ownRules_154 ?_
              refine lv_aload_n G.1 G.2.1 d_Ck_ownRules_157 rfl (lv_at hl 1 rfl) ?_
              refine ugf (v := .int (sV s_j147 a0 4)) G hP h_a0 iCk rfl 4 (by decide) rfl q655 rfl rfl d_Ck_ownRules_158 ?_
              refine ucVi (As := [.int (sV s_j147 a0 4)]) (rest := [.int x1j147]) G hP hD hS (cu_Wd_isFace l D g ad y _ s_j147 b_23 (sV s_j147 a0 4) H.size c_25 h) w9_Wd_isFace q1662 ⟨Nat.le_of_ble_eq_true rfl, Nat.le_of_ble_eq_true rfl⟩ rfl rfl c_25 (q := (RWd, TWd, 17)) rfl rfl hl.1 rfl (Nat.le_of_ble_eq_true rfl) rfl ⟨Nat.le_refl _, Nat.le_refl _⟩ d_Ck_ownRules_161 (fun r_26 s_27 H locs h hP hD hS => ?_)
              have J_184 : ∀ (s_j184 : St) (x1j184 : Int32) (z0j184 : Int32) (z1j184 : Int32) (H : Heap) (locs : List Loc), wj_Ck_ownRules_184 y Post a0 s_j184 x1j184 z0j184 z1j184 → va_P D CL (ws g ad y s_j184) H → va_D A (ws g ad y s_j184) → va_S A s.heap H locs → ∀ ls, lv_has ls 5 [(0, .ref (ad a0)), (1, .int x1j184)] → W p l e ru_Ck_ownRules s m args below meth c H locs 0 0 Q (F0 m 184 ls [.int z1j184, .int z0j184]) := by
                intro s_j184 x1j184 z0j184 z1j184 H locs h hP hD hS ls hl
                unfold wj_Ck_ownRules_184 at h
                refine lv_icmp_ne (tgt := 191) G.1 G.2.1 d_Ck_ownRules_184 (by decide) (fun c184 => ?_) (fun c184 => ?_)
                · skip
                  have h := h.1 c184
                  refine lv_iconst (v := 0) G.1 G.2.1 d_Ck_ownRules_191 (by decide) ?_
                  exact J_192 s_j184 x1j184 0 H locs h hP hD hS ls (lv_sub hl [0, 1] rfl)
                · skip
                  have h := h.2 c184
                  exact J_187 s_j184 x1j184 H locs h hP hD hS ls (lv_sub hl [0, 1] rfl)
              refine lv_if_eq (tgt := 172) G.1 G.2.1 d_Ck_ownRules_164 (by decide) (fun c164 => ?_) (fun c164 => ?_)
              · skip
                have h := h.1 c164
                refine lv_aload_n G.1 G.2.1 d_Ck_ownRules_172 rfl (lv_at hl 1 rfl) ?_
                refine W.eq (g2 := F0 m 173 ls [.ref (ad a0), .int x1j147]) rfl ?_
                obtain ⟨b_28, e_29, c_30, h⟩ := h
                refine ugf (v := .ref (ad b_28)) G hP h_a0 iCk rfl 3 (by decide) rfl q654 rfl (by show va_rf ((sO s_27 a0 3).map ad) = _; rw [e_29]; rfl) d_Ck_ownRules_173 ?_
                refine lv_aload_n G.1 G.2.1 d_Ck_ownRules_176 rfl (lv_at hl 1 rfl) ?_
                refine ugf (v := .int (sV s_27 a0 4)) G hP h_a0 iCk rfl 4 (by decide) rfl q655 rfl rfl d_Ck_ownRules_177 ?_
                refine lv_iconst (v := 2) G.1 G.2.1 d_Ck_ownRules_180 (by decide) ?_
                refine ucVi (As := [.int (sV s_27 a0 4), .int 2]) (rest := [.int x1j147]) G hP hD hS (cu_Wd_of l D g ad y _ s_27 b_28 (sV s_27 a0 4) 2 H.size c_30 h) w9_Wd_of q1587 ⟨Nat.le_of_ble_eq_true rfl, Nat.le_of_ble_eq_true rfl⟩ rfl rfl c_30 (q := (RWd, TWd, 17)) rfl rfl hl.1 rfl (Nat.le_of_ble_eq_true rfl) rfl ⟨Nat.le_refl _, Nat.le_refl _⟩ d_Ck_ownRules_181 (fun r_31 s_32 H locs h hP hD hS => ?_)
                exact J_184 s_32 x1j147 x1j147 r_31 H locs h hP hD hS ls (lv_sub hl [1, 2] rfl)
              · skip
                have h := h.2 c164
                refine lv_bipush (v := 9) G.1 G.2.1 d_Ck_ownRules_167 (by decide) ?_
                refine W.eq (g2 := F0 m 169 ls [.int 9, .int x1j147]) rfl ?_
                refine lv_goto (tgt := 184) G.1 G.2.1 d_Ck_ownRules_169 (by decide) ?_
                exact J_184 s_27 x1j147 x1j147 9 H locs h hP hD hS ls (lv_sub hl [1, 2] rfl)
          refine lv_icmp_ne (tgt := 146) G.1 G.2.1 d_Ck_ownRules_139 (by decide) (fun c139 => ?_) (fun c139 => ?_)
          · skip
            have h := h.1 c139
            refine lv_iconst (v := 0) G.1 G.2.1 d_Ck_ownRules_146 (by decide) ?_
            exact J_147 s_7 r_1 0 H locs h hP hD hS ls (lv_sub hl [1, 0] rfl)
          · skip
            have h := h.2 c139
            refine lv_iconst (v := 1) G.1 G.2.1 d_Ck_ownRules_142 (by decide) ?_
            refine lv_goto (tgt := 147) G.1 G.2.1 d_Ck_ownRules_143 (by decide) ?_
            exact J_147 s_7 r_1 1 H locs h hP hD hS ls (lv_sub hl [1, 0] rfl)
        · skip
          have h := h.2 c103
          refine lv_aload_n G.1 G.2.1 d_Ck_ownRules_106 rfl (lv_at hl 0 rfl) ?_
          refine ugf (v := .int (sV σ a0 14)) G hP h_a0 iCk rfl 14 (by decide) rfl q665 rfl rfl d_Ck_ownRules_107 ?_
          have J_119 : ∀ (s_j119 : St) (z0j119 : Int32) (H : Heap) (locs : List Loc), wj_Ck_ownRules_119 y Post a0 s_j119 z0j119 → va_P D CL (ws g ad y s_j119) H → va_D A (ws g ad y s_j119) → va_S A s.heap H locs → ∀ ls, lv_has ls 5 [] → W p l e ru_Ck_ownRules s m args below meth c H locs 0 0 Q (F0 m 119 ls [.int z0j119]) := by
            intro s_j119 z0j119 H locs h hP hD hS ls hl
            unfold wj_Ck_ownRules_119 at h
            exact hret _ _ _ _ _ _ _ ls h hP hD hS (Nat.le_refl _) (Nat.le_refl _) d_Ck_ownRules_119
          refine lv_if_eq (tgt := 118) G.1 G.2.1 d_Ck_ownRules_110 (by decide) (fun c110 => ?_) (fun c110 => ?_)
          · skip
            have h := h.1 c110
            refine lv_iconst (v := 0) G.1 G.2.1 d_Ck_ownRules_118 (by decide) ?_
            exact J_119 σ 0 H locs h hP hD hS ls (lv_sub hl [] rfl)
          · skip
            have h := h.2 c110
            refine lv_bipush (v := 42) G.1 G.2.1 d_Ck_ownRules_113 (by decide) ?_
            refine lv_goto (tgt := 119) G.1 G.2.1 d_Ck_ownRules_115 (by decide) ?_
            exact J_119 σ 42 H locs h hP hD hS ls (lv_sub hl [] rfl)
      · skip
        have h := h.2 c72
        refine lv_aload_n G.1 G.2.1 d_Ck_ownRules_75 rfl (lv_at hl 0 rfl) ?_
        refine ugf (v := .int (sV σ a0 9)) G hP h_a0 iCk rfl 9 (by decide) rfl q660 rfl rfl d_Ck_ownRules_76 ?_
        have J_96 : ∀ (s_j96 : St) (z0j96 : Int32) (H : Heap) (locs : List Loc), wj_Ck_ownRules_96 y Post a0 s_j96 z0j96 → va_P D CL (ws g ad y s_j96) H → va_D A (ws g ad y s_j96) → va_S A s.heap H locs → ∀ ls, lv_has ls 5 [] → W p l e ru_Ck_ownRules s m args below meth c H locs 0 0 Q (F0 m 96 ls [.int z0j96]) := by
          intro s_j96 z0j96 H locs h hP hD hS ls hl
          unfold wj_Ck_ownRules_96 at h
          exact hret _ _ _ _ _ _ _ ls h hP hD hS (Nat.le_refl _) (Nat.le_refl _) d_Ck_ownRules_96
        have J_90 : ∀ (s_j90 : St) (H : Heap) (locs : List Loc), wj_Ck_ownRules_90 y Post a0 s_j90 → va_P D CL (ws g ad y s_j90) H → va_D A (ws g ad y s_j90) → va_S A s.heap H locs → ∀ ls, lv_has ls 5 [] → W p l e ru_Ck_ownRules s m args below meth c H locs 0 0 Q (F0 m 90 ls []) := by
          intro s_j90 H locs h hP hD hS ls hl
          unfold wj_Ck_ownRules_90 at h
          refine lv_bipush (v := 41) G.1 G.2.1 d_Ck_ownRules_90 (by decide) ?_
          refine lv_goto (tgt := 96) G.1 G.2.1 d_Ck_ownRules_92 (by decide) ?_
          exact J_96 s_j90 41 H locs h hP hD hS ls (lv_sub hl [] rfl)
        refine lv_if_eq (tgt := 90) G.1 G.2.1 d_Ck_ownRules_79 (by decide) (fun c79 => ?_) (fun c79 => ?_)
        · skip
          have h := h.1 c79
          exact J_90 σ H locs h hP hD hS ls (lv_sub hl [] rfl)
        · skip
          have h := h.2 c79
          refine lv_aload_n G.1 G.2.1 d_Ck_ownRules_82 rfl (lv_at hl 0 rfl) ?_
          refine ugf (v := .int (sV σ a0 9)) G hP h_a0 iCk rfl 9 (by decide) rfl q660 rfl rfl d_Ck_ownRules_83 ?_
          refine lv_iconst (v := 5) G.1 G.2.1 d_Ck_ownRules_86 (by decide) ?_
          refine lv_icmp_ne (tgt := 95) G.1 G.2.1 d_Ck_ownRules_87 (by decide) (fun c87 => ?_) (fun c87 => ?_)
          · skip
            have h := h.1 c87
            refine lv_iconst (v := 0) G.1 G.2.1 d_Ck_ownRules_95 (by decide) ?_
            exact J_96 σ 0 H locs h hP hD hS ls (lv_sub hl [] rfl)
          · skip
            have h := h.2 c87
            exact J_90 σ H locs h hP hD hS ls (lv_sub hl [] rfl)
    · skip
      have h := h.2 c49
      refine lv_aload_n G.1 G.2.1 d_Ck_ownRules_52 rfl (lv_at hl 0 rfl) ?_
      refine ugf (v := .int (sV σ a0 9)) G hP h_a0 iCk rfl 9 (by decide) rfl q660 rfl rfl d_Ck_ownRules_53 ?_
      have J_65 : ∀ (s_j65 : St) (z0j65 : Int32) (H : Heap) (locs : List Loc), wj_Ck_ownRules_65 y Post a0 s_j65 z0j65 → va_P D CL (ws g ad y s_j65) H → va_D A (ws g ad y s_j65) → va_S A s.heap H locs → ∀ ls, lv_has ls 5 [] → W p l e ru_Ck_ownRules s m args below meth c H locs 0 0 Q (F0 m 65 ls [.int z0j65]) := by
        intro s_j65 z0j65 H locs h hP hD hS ls hl
        unfold wj_Ck_ownRules_65 at h
        exact hret _ _ _ _ _ _ _ ls h hP hD hS (Nat.le_refl _) (Nat.le_refl _) d_Ck_ownRules_65
      refine lv_if_eq (tgt := 64) G.1 G.2.1 d_Ck_ownRules_56 (by decide) (fun c56 => ?_) (fun c56 => ?_)
      · skip
        have h := h.1 c56
        refine W.eq (g2 := F0 m 64 ls []) rfl ?_
        refine lv_iconst (v := 0) G.1 G.2.1 d_Ck_ownRules_64 (by decide) ?_
        exact J_65 σ 0 H locs h hP hD hS ls (lv_sub hl [] rfl)
      · skip
        have h := h.2 c56
        refine W.eq (g2 := F0 m 59 ls []) rfl ?_
        refine lv_bipush (v := 41) G.1 G.2.1 d_Ck_ownRules_59 (by decide) ?_
        refine lv_goto (tgt := 65) G.1 G.2.1 d_Ck_ownRules_61 (by decide) ?_
        exact J_65 σ 41 H locs h hP hD hS ls (lv_sub hl [] rfl)
  · skip
    have h := h.2 c6
    refine lv_aload_n G.1 G.2.1 d_Ck_ownRules_9 rfl (lv_at hl 0 rfl) ?_
    refine ugf (v := .int (sV σ a0 10)) G hP h_a0 iCk rfl 10 (by decide) rfl q661 rfl rfl d_Ck_ownRules_10 ?_
    have J_42 : ∀ (s_j42 : St) (z0j42 : Int32) (H : Heap) (locs : List Loc), wj_Ck_ownRules_42 y Post a0 s_j42 z0j42 → va_P D CL (ws g ad y s_j42) H → va_D A (ws g ad y s_j42) → va_S A s.heap H locs → ∀ ls, lv_has ls 5 [] → W p l e ru_Ck_ownRules s m args below meth c H locs 0 0 Q (F0 m 42 ls [.int z0j42]) := by
      intro s_j42 z0j42 H locs h hP hD hS ls hl
      unfold wj_Ck_ownRules_42 at h
      exact hret _ _ _ _ _ _ _ ls h hP hD hS (Nat.le_refl _) (Nat.le_refl _) d_Ck_ownRules_42
    have J_28 : ∀ (s_j28 : St) (H : Heap) (locs : List Loc), wj_Ck_ownRules_28 y Post a0 s_j28 → va_P D CL (ws g ad y s_j28) H → va_D A (ws g ad y s_j28) → va_S A s.heap H locs → ∀ ls, lv_has ls 5 [(0, .ref (ad a0))] → W p l e ru_Ck_ownRules s m args below meth c H locs 0 0 Q (F0 m 28 ls []) := by
      intro s_j28 H locs h hP hD hS ls hl
      unfold wj_Ck_ownRules_28 at h
      refine lv_aload_n G.1 G.2.1 d_Ck_ownRules_28 rfl (lv_at hl 0 rfl) ?_
      refine ugf (v := .int (sV s_j28 a0 9)) G hP h_a0 iCk rfl 9 (by decide) rfl q660 rfl rfl d_Ck_ownRules_29 ?_
      refine lv_iconst (v := 5) G.1 G.2.1 d_Ck_ownRules_32 (by decide) ?_
      refine lv_icmp_eq (tgt := 41) G.1 G.2.1 d_Ck_ownRules_33 (by decide) (fun c33 => ?_) (fun c33 => ?_)
      · skip
        have h := h.1 c33
        refine lv_iconst (v := 0) G.1 G.2.1 d_Ck_ownRules_41 (by decide) ?_
        exact J_42 s_j28 0 H locs h hP hD hS ls (lv_sub hl [] rfl)
      · skip
        have h := h.2 c33
        refine lv_bipush (v := 41) G.1 G.2.1 d_Ck_ownRules_36 (by decide) ?_
        refine lv_goto (tgt := 42) G.1 G.2.1 d_Ck_ownRules_38 (by decide) ?_
        exact J_42 s_j28 41 H locs h hP hD hS ls (lv_sub hl [] rfl)
    refine lv_if_eq (tgt := 28) G.1 G.2.1 d_Ck_ownRules_13 (by decide) (fun c13 => ?_) (fun c13 => ?_)
    · skip
      have h := h.1 c13
      exact J_28 σ H locs h hP hD hS ls (lv_sub hl [0] rfl)
    · skip
      have h := h.2 c13
      refine lv_aload_n G.1 G.2.1 d_Ck_ownRules_16 rfl (lv_at hl 0 rfl) ?_
      refine ucVi (As := []) (rest := []) G hP hD hS (cu_Ck_hasUnmade l D g ad y _ σ a0 H.size h_a0 h) w9_Ck_hasUnmade q1658 ⟨Nat.le_of_ble_eq_true rfl, Nat.le_of_ble_eq_true rfl⟩ rfl rfl h_a0 (q := (RCk, TCk, 22)) rfl rfl hl.1 rfl (Nat.le_of_ble_eq_true rfl) rfl ⟨Nat.le_refl _, Nat.le_refl _⟩ d_Ck_ownRules_17 (fun r_33 s_34 H locs h hP hD hS => ?_)
      refine lv_if_eq (tgt := 28) G.1 G.2.1 d_Ck_ownRules_20 (by decide) (fun c20 => ?_) (fun c20 => ?_)
      · skip
        have h := h.1 c20
        exact J_28 s_34 H locs h hP hD hS ls (lv_sub hl [0] rfl)
      · skip
        have h := h.2 c20
        refine lv_bipush (v := 40) G.1 G.2.1 d_Ck_ownRules_23 (by decide) ?_
        refine W.eq (g2 := F0 m 25 ls [.int 40]) rfl ?_
        refine lv_goto (tgt := 42) G.1 G.2.1 d_Ck_ownRules_25 (by decide) ?_
        exact J_42 s_34 40 H locs h hP hD hS ls (lv_sub hl [] rfl)
def y_Ck_turn : MethodName := ⟨"ClassWorks$Checker", "turn", "(I)V"⟩
abbrev b_Ck_turn : ByteArray := prog_2_method_24_code
theorem d_Ck_turn_0 : decode b_Ck_turn 0 = .ok (.aload_n 0, 1) := by decide +kernel
theorem d_Ck_turn_1 : decode b_Ck_turn 1 = .ok (.getfield 52, 3) := by decide +kernel
theorem d_Ck_turn_4 : decode b_Ck_turn 4 = .ok (.iload_n 1, 1) := by decide +kernel
theorem d_Ck_turn_5 : decode b_Ck_turn 5 = .ok (.iaload, 1) := by decide +kernel
theorem d_Ck_turn_6 : decode b_Ck_turn 6 = .ok (.istore_n 2, 1) := by decide +kernel
theorem d_Ck_turn_7 : decode b_Ck_turn 7 = .ok (.aload_n 0, 1) := by decide +kernel
theorem d_Ck_turn_8 : decode b_Ck_turn 8 = .ok (.getfield 43, 3) := by decide +kernel
theorem d_Ck_turn_11 : decode b_Ck_turn 11 = .ok (.bipush 20, 2) := by decide +kernel
theorem d_Ck_turn_13 : decode b_Ck_turn 13 = .ok (.if_icmp .ne 15, 3) := by decide +kernel
theorem d_Ck_turn_16 : decode b_Ck_turn 16 = .ok (.aload_n 0, 1) := by decide +kernel
theorem d_Ck_turn_17 : decode b_Ck_turn 17 = .ok (.getfield 52, 3) := by decide +kernel
theorem d_Ck_turn_20 : decode b_Ck_turn 20 = .ok (.iload_n 1, 1) := by decide +kernel
theorem d_Ck_turn_21 : decode b_Ck_turn 21 = .ok (.iconst 1, 1) := by decide +kernel
theorem d_Ck_turn_22 : decode b_Ck_turn 22 = .ok (.iadd, 1) := by decide +kernel
theorem d_Ck_turn_23 : decode b_Ck_turn 23 = .ok (.iload_n 2, 1) := by decide +kernel
theorem d_Ck_turn_24 : decode b_Ck_turn 24 = .ok (.iastore, 1) := by decide +kernel
theorem d_Ck_turn_25 : decode b_Ck_turn 25 = .ok (.goto 44, 3) := by decide +kernel
theorem d_Ck_turn_28 : decode b_Ck_turn 28 = .ok (.aload_n 0, 1) := by decide +kernel
theorem d_Ck_turn_29 : decode b_Ck_turn 29 = .ok (.getfield 52, 3) := by decide +kernel
theorem d_Ck_turn_32 : decode b_Ck_turn 32 = .ok (.iload_n 1, 1) := by decide +kernel
theorem d_Ck_turn_33 : decode b_Ck_turn 33 = .ok (.aload_n 0, 1) := by decide +kernel
theorem d_Ck_turn_34 : decode b_Ck_turn 34 = .ok (.getfield 52, 3) := by decide +kernel
theorem d_Ck_turn_37 : decode b_Ck_turn 37 = .ok (.iload_n 1, 1) := by decide +kernel
theorem d_Ck_turn_38 : decode b_Ck_turn 38 = .ok (.iconst 1, 1) := by decide +kernel
theorem d_Ck_turn_39 : decode b_Ck_turn 39 = .ok (.isub, 1) := by decide +kernel
theorem d_Ck_turn_40 : decode b_Ck_turn 40 = .ok (.iaload, 1) := by decide +kernel
theorem d_Ck_turn_41 : decode b_Ck_turn 41 = .ok (.iastore, 1) := by decide +kernel
theorem d_Ck_turn_42 : decode b_Ck_turn 42 = .ok (.aload_n 0, 1) := by decide +kernel
theorem d_Ck_turn_43 : decode b_Ck_turn 43 = .ok (.getfield 52, 3) := by decide +kernel
theorem d_Ck_turn_46 : decode b_Ck_turn 46 = .ok (.iload_n 1, 1) := by decide +kernel
theorem d_Ck_turn_47 : decode b_Ck_turn 47 = .ok (.iconst 1, 1) := by decide +kernel
theorem d_Ck_turn_48 : decode b_Ck_turn 48 = .ok (.isub, 1) := by decide +kernel
theorem d_Ck_turn_49 : decode b_Ck_turn 49 = .ok (.iload_n 2, 1) := by decide +kernel
theorem d_Ck_turn_50 : decode b_Ck_turn 50 = .ok (.iastore, 1) := by decide +kernel
theorem d_Ck_turn_51 : decode b_Ck_turn 51 = .ok (.aload_n 0, 1) := by decide +kernel
theorem d_Ck_turn_52 : decode b_Ck_turn 52 = .ok (.getfield 43, 3) := by decide +kernel
theorem d_Ck_turn_55 : decode b_Ck_turn 55 = .ok (.bipush 21, 2) := by decide +kernel
theorem d_Ck_turn_57 : decode b_Ck_turn 57 = .ok (.if_icmp .ne 12, 3) := by decide +kernel
theorem d_Ck_turn_60 : decode b_Ck_turn 60 = .ok (.aload_n 0, 1) := by decide +kernel
theorem d_Ck_turn_61 : decode b_Ck_turn 61 = .ok (.getfield 52, 3) := by decide +kernel
theorem d_Ck_turn_64 : decode b_Ck_turn 64 = .ok (.iload_n 1, 1) := by decide +kernel
theorem d_Ck_turn_65 : decode b_Ck_turn 65 = .ok (.iconst 1, 1) := by decide +kernel
theorem d_Ck_turn_66 : decode b_Ck_turn 66 = .ok (.iadd, 1) := by decide +kernel
theorem d_Ck_turn_67 : decode b_Ck_turn 67 = .ok (.iload_n 2, 1) := by decide +kernel
theorem d_Ck_turn_68 : decode b_Ck_turn 68 = .ok (.iastore, 1) := by decide +kernel
theorem d_Ck_turn_69 : decode b_Ck_turn 69 = .ok (.aload_n 0, 1) := by decide +kernel
theorem d_Ck_turn_70 : decode b_Ck_turn 70 = .ok (.dup, 1) := by decide +kernel
theorem d_Ck_turn_71 : decode b_Ck_turn 71 = .ok (.getfield 56, 3) := by decide +kernel
theorem d_Ck_turn_74 : decode b_Ck_turn 74 = .ok (.aload_n 0, 1) := by decide +kernel
theorem d_Ck_turn_75 : decode b_Ck_turn 75 = .ok (.getfield 43, 3) := by decide +kernel
theorem d_Ck_turn_78 : decode b_Ck_turn 78 = .ok (.bipush 22, 2) := by decide +kernel
theorem d_Ck_turn_80 : decode b_Ck_turn 80 = .ok (.if_icmp .ne 7, 3) := by decide +kernel
theorem d_Ck_turn_83 : decode b_Ck_turn 83 = .ok (.iconst 0, 1) := by decide +kernel
theorem d_Ck_turn_84 : decode b_Ck_turn 84 = .ok (.goto 4, 3) := by decide +kernel
theorem d_Ck_turn_87 : decode b_Ck_turn 87 = .ok (.iconst 1, 1) := by decide +kernel
theorem d_Ck_turn_88 : decode b_Ck_turn 88 = .ok (.iadd, 1) := by decide +kernel
theorem d_Ck_turn_89 : decode b_Ck_turn 89 = .ok (.putfield 56, 3) := by decide +kernel
theorem d_Ck_turn_92 : decode b_Ck_turn 92 = .ok (.return_, 1) := by decide +kernel
abbrev ru_Ck_turn : Room := { frames := 0, cells := 0, slots := 0, locals := 0 }
def wj_Ck_turn_88 (y : Ly) (Post : St → Prop) (a0 : Nat) (s_j88 : St) (z1j88 : Int32) (z2j88 : Int32) : Prop := xP (uV s_j88 a0 16 (z1j88 + z2j88)) (fun s_2 : St => Post s_2)
def wj_Ck_turn_69 (y : Ly) (Post : St → Prop) (a0 : Nat) (s_j69 : St) : Prop := ((¬ (sV s_j69 a0 12) = 22 → wj_Ck_turn_88 y Post a0 s_j69 (sV s_j69 a0 16) 1) ∧ ((sV s_j69 a0 12) = 22 → wj_Ck_turn_88 y Post a0 s_j69 (sV s_j69 a0 16) 0))
def wu_Ck_turn (y : Ly) (Post : St → Prop) (σ : St) (a0 : Nat) (v1 : Int32) : Prop := xA y σ a0 15 v1 (fun x_1 : Int32 => ((¬ (sV σ a0 12) = 20 → xA y σ a0 15 (v1 - 1) (fun x_3 : Int32 => xS y σ a0 15 v1 x_3 (fun s_4 : St => xS y s_4 a0 15 (v1 - 1) x_1 (fun s_5 : St => ((¬ (sV s_5 a0 12) = 21 → wj_Ck_turn_69 y Post a0 s_5) ∧ ((sV s_5 a0 12) = 21 → xS y s_5 a0 15 (v1 + 1) x_1 (fun s_6 : St => wj_Ck_turn_69 y Post a0 s_6))))))) ∧ ((sV σ a0 12) = 20 → xS y σ a0 15 (v1 + 1) x_1 (fun s_7 : St => wj_Ck_turn_69 y Post a0 s_7))))
set_option maxHeartbeats 4000000 in
set_option maxRecDepth 100000 in
theorem cu_Ck_turn (l : Launch) (D : va_G) (g : Nat → ClassId) (ad : Nat → Nat) (y : Ly) (Post : St → Prop) (σ : St) (a0 : Nat) (v1 : Int32) (sz : Nat) (h_a0 : cl a0 = 0) (h : wu_Ck_turn y Post σ a0 v1) : Met l y_Ck_turn (mw y_Ck_turn b_Ck_turn 3 (none)) ru_Ck_turn (PC g D [] [.ref (ad a0), .int v1] sz (ws g ad y σ)) (va_Qv (fun u : St => Post u) (QW D (va_A (ws g ad y σ) sz) (fun u => ws g ad y u)) (va_A (ws g ad y σ) sz)) 0 0 (va_A (ws g ad y σ) sz) := by
  refine ofV (by decide +kernel) (Nat.le_of_ble_eq_true rfl) ?_
  intro p e s m args below meth c A Q ls H locs G hsz hP hD hS hl hret
  subst hsz
  have hl : lv_has ls 3 [(0, .ref (ad a0)), (1, .int v1)] := hl
  unfold wu_Ck_turn at h
  refine lv_aload_n G.1 G.2.1 d_Ck_turn_0 rfl (lv_at hl 0 rfl) ?_
  refine ugf (v := .ref (yP y a0 15)) G hP h_a0 iCk rfl 15 (by decide) rfl q666 rfl rfl d_Ck_turn_1 ?_
  refine lv_iload_n G.1 G.2.1 d_Ck_turn_4 rfl (lv_at hl 1 rfl) ?_
  refine uiald G hP (kdp h_a0 rfl) (typ h_a0 rfl) h d_Ck_turn_5 (fun x_1 h => ?_)
  refine lv_istore_n (lv' := [(2, .int x_1), (0, .ref (ad a0)), (1, .int v1)]) G.1 G.2.1 d_Ck_turn_6 rfl hl (by decide) rfl (fun ls hl => ?_)
  refine lv_aload_n G.1 G.2.1 d_Ck_turn_7 rfl (lv_at hl 1 rfl) ?_
  refine ugf (v := .int (sV σ a0 12)) G hP h_a0 iCk rfl 12 (by decide) rfl q663 rfl rfl d_Ck_turn_8 ?_
  refine lv_bipush (v := 20) G.1 G.2.1 d_Ck_turn_11 (by decide) ?_
  have J_69 : ∀ (s_j69 : St) (H : Heap) (locs : List Loc), wj_Ck_turn_69 y Post a0 s_j69 → va_P D CL (ws g ad y s_j69) H → va_D A (ws g ad y s_j69) → va_S A s.heap H locs → ∀ ls, lv_has ls 3 [(0, .ref (ad a0))] → W p l e ru_Ck_turn s m args below meth c H locs 0 0 Q (F0 m 69 ls []) := by
    intro s_j69 H locs h hP hD hS ls hl
    unfold wj_Ck_turn_69 at h
    refine lv_aload_n G.1 G.2.1 d_Ck_turn_69 rfl (lv_at hl 0 rfl) ?_
    refine lv_dup G.1 G.2.1 d_Ck_turn_70 rfl ?_
    refine ugf (v := .int (sV s_j69 a0 16)) G hP h_a0 iCk rfl 16 (by decide) rfl q667 rfl rfl d_Ck_turn_71 ?_
    refine lv_aload_n G.1 G.2.1 d_Ck_turn_74 rfl (lv_at hl 0 rfl) ?_
    refine ugf (v := .int (sV s_j69 a0 12)) G hP h_a0 iCk rfl 12 (by decide) rfl q663 rfl rfl d_Ck_turn_75 ?_
    refine lv_bipush (v := 22) G.1 G.2.1 d_Ck_turn_78 (by decide) ?_
    have J_88 : ∀ (s_j88 : St) (z1j88 : Int32) (z2j88 : Int32) (H : Heap) (locs : List Loc), wj_Ck_turn_88 y Post a0 s_j88 z1j88 z2j88 → va_P D CL (ws g ad y s_j88) H → va_D A (ws g ad y s_j88) → va_S A s.heap H locs → ∀ ls, lv_has ls 3 [] → W p l e ru_Ck_turn s m args below meth c H locs 0 0 Q (F0 m 88 ls [.int z2j88, .int z1j88, .ref (ad a0)]) := by
      intro s_j88 z1j88 z2j88 H locs h hP hD hS ls hl
      unfold wj_Ck_turn_88 at h
      refine lv_iadd G.1 G.2.1 d_Ck_turn_88 ?_
      refine upf G hP hD hS h 16 putV h_a0 iCk tCk tCk_ok nCk rfl (by decide) rfl q667 rfl rfl fV rfl rfl d_Ck_turn_89 (fun s_2 H locs h hP hD hS => ?_)
      exact hret _ _ _ _ _ _ ls h hP hD hS (Nat.le_refl _) (Nat.le_refl _) d_Ck_turn_92
    refine lv_icmp_ne (tgt := 87) G.1 G.2.1 d_Ck_turn_80 (by decide) (fun c80 => ?_) (fun c80 => ?_)
    · skip
      have h := h.1 c80
      refine lv_iconst (v := 1) G.1 G.2.1 d_Ck_turn_87 (by decide) ?_
      exact J_88 s_j69 (sV s_j69 a0 16) 1 H locs h hP hD hS ls (lv_sub hl [] rfl)
    · skip
      have h := h.2 c80
      refine lv_iconst (v := 0) G.1 G.2.1 d_Ck_turn_83 (by decide) ?_
      refine lv_goto (tgt := 88) G.1 G.2.1 d_Ck_turn_84 (by decide) ?_
      exact J_88 s_j69 (sV s_j69 a0 16) 0 H locs h hP hD hS ls (lv_sub hl [] rfl)
  refine lv_icmp_ne (tgt := 28) G.1 G.2.1 d_Ck_turn_13 (by decide) (fun c13 => ?_) (fun c13 => ?_)
  · skip
    have h := h.1 c13
    refine lv_aload_n G.1 G.2.1 d_Ck_turn_28 rfl (lv_at hl 1 rfl) ?_
    refine ugf (v := .ref (yP y a0 15)) G hP h_a0 iCk rfl 15 (by decide) rfl q666 rfl rfl d_Ck_turn_29 ?_
    refine W.eq (g2 := F0 m 32 ls [.ref (yP y a0 15)]) rfl ?_
    refine lv_iload_n G.1 G.2.1 d_Ck_turn_32 rfl (lv_at hl 2 rfl) ?_
    refine lv_aload_n G.1 G.2.1 d_Ck_turn_33 rfl (lv_at hl 1 rfl) ?_
    refine ugf (v := .ref (yP y a0 15)) G hP h_a0 iCk rfl 15 (by decide) rfl q666 rfl rfl d_Ck_turn_34 ?_
    refine lv_iload_n G.1 G.2.1 d_Ck_turn_37 rfl (lv_at hl 2 rfl) ?_
    refine lv_iconst (v := 1) G.1 G.2.1 d_Ck_turn_38 (by decide) ?_
    refine lv_isub G.1 G.2.1 d_Ck_turn_39 ?_
    refine uiald G hP (kdp h_a0 rfl) (typ h_a0 rfl) h d_Ck_turn_40 (fun x_3 h => ?_)
    refine uiast G hP hD hS (kdp h_a0 rfl) (typ h_a0 rfl) h d_Ck_turn_41 (fun s_4 H locs h hP hD hS => ?_)
    refine lv_aload_n G.1 G.2.1 d_Ck_turn_42 rfl (lv_at hl 1 rfl) ?_
    refine ugf (v := .ref (yP y a0 15)) G hP h_a0 iCk rfl 15 (by decide) rfl q666 rfl rfl d_Ck_turn_43 ?_
    refine lv_iload_n G.1 G.2.1 d_Ck_turn_46 rfl (lv_at hl 2 rfl) ?_
    refine lv_iconst (v := 1) G.1 G.2.1 d_Ck_turn_47 (by decide) ?_
    refine W.eq (g2 := F0 m 48 ls [.int 1, .int v1, .ref (yP y a0 15)]) rfl ?_
    refine lv_isub G.1 G.2.1 d_Ck_turn_48 ?_
    refine lv_iload_n G.1 G.2.1 d_Ck_turn_49 rfl (lv_at hl 0 rfl) ?_
    refine uiast G hP hD hS (kdp h_a0 rfl) (typ h_a0 rfl) h d_Ck_turn_50 (fun s_5 H locs h hP hD hS => ?_)
    refine lv_aload_n G.1 G.2.1 d_Ck_turn_51 rfl (lv_at hl 1 rfl) ?_
    refine ugf (v := .int (sV s_5 a0 12)) G hP h_a0 iCk rfl 12 (by decide) rfl q663 rfl rfl d_Ck_turn_52 ?_
    refine lv_bipush (v := 21) G.1 G.2.1 d_Ck_turn_55 (by decide) ?_
    refine lv_icmp_ne (tgt := 69) G.1 G.2.1 d_Ck_turn_57 (by decide) (fun c57 => ?_) (fun c57 => ?_)
    · skip
      have h := h.1 c57
      exact J_69 s_5 H locs h hP hD hS ls (lv_sub hl [1] rfl)
    · skip
      have h := h.2 c57
      refine lv_aload_n G.1 G.2.1 d_Ck_turn_60 rfl (lv_at hl 1 rfl) ?_
      refine ugf (v := .ref (yP y a0 15)) G hP h_a0 iCk rfl 15 (by decide) rfl q666 rfl rfl d_Ck_turn_61 ?_
      refine lv_iload_n G.1 G.2.1 d_Ck_turn_64 rfl (lv_at hl 2 rfl) ?_
      refine lv_iconst (v := 1) G.1 G.2.1 d_Ck_turn_65 (by decide) ?_
      refine lv_iadd G.1 G.2.1 d_Ck_turn_66 ?_
      refine W.eq (g2 := F0 m 67 ls [.int (v1 + 1), .ref (yP y a0 15)]) rfl ?_
      refine lv_iload_n G.1 G.2.1 d_Ck_turn_67 rfl (lv_at hl 0 rfl) ?_
      refine uiast G hP hD hS (kdp h_a0 rfl) (typ h_a0 rfl) h d_Ck_turn_68 (fun s_6 H locs h hP hD hS => ?_)
      exact J_69 s_6 H locs h hP hD hS ls (lv_sub hl [1] rfl)
  · skip
    have h := h.2 c13
    refine lv_aload_n G.1 G.2.1 d_Ck_turn_16 rfl (lv_at hl 1 rfl) ?_
    refine ugf (v := .ref (yP y a0 15)) G hP h_a0 iCk rfl 15 (by decide) rfl q666 rfl rfl d_Ck_turn_17 ?_
    refine W.eq (g2 := F0 m 20 ls [.ref (yP y a0 15)]) rfl ?_
    refine lv_iload_n G.1 G.2.1 d_Ck_turn_20 rfl (lv_at hl 2 rfl) ?_
    refine lv_iconst (v := 1) G.1 G.2.1 d_Ck_turn_21 (by decide) ?_
    refine lv_iadd G.1 G.2.1 d_Ck_turn_22 ?_
    refine lv_iload_n G.1 G.2.1 d_Ck_turn_23 rfl (lv_at hl 0 rfl) ?_
    refine uiast G hP hD hS (kdp h_a0 rfl) (typ h_a0 rfl) h d_Ck_turn_24 (fun s_7 H locs h hP hD hS => ?_)
    refine lv_goto (tgt := 69) G.1 G.2.1 d_Ck_turn_25 (by decide) ?_
    exact J_69 s_7 H locs h hP hD hS ls (lv_sub hl [1] rfl)
def y_Ck_made : MethodName := ⟨"ClassWorks$Checker", "made", "(I)V"⟩
abbrev b_Ck_made : ByteArray := prog_2_method_25_code
theorem d_Ck_made_0 : decode b_Ck_made 0 = .ok (.iload_n 1, 1) := by decide +kernel
theorem d_Ck_made_1 : decode b_Ck_made 1 = .ok (.iconst 4, 1) := by decide +kernel
theorem d_Ck_made_2 : decode b_Ck_made 2 = .ok (.if_icmp .ne 18, 3) := by decide +kernel
theorem d_Ck_made_5 : decode b_Ck_made 5 = .ok (.aload_n 0, 1) := by decide +kernel
theorem d_Ck_made_6 : decode b_Ck_made 6 = .ok (.getfield 78, 3) := by decide +kernel
theorem d_Ck_made_9 : decode b_Ck_made 9 = .ok (.aload_n 0, 1) := by decide +kernel
theorem d_Ck_made_10 : decode b_Ck_made 10 = .ok (.getfield 18, 3) := by decide +kernel
theorem d_Ck_made_13 : decode b_Ck_made 13 = .ok (.iconst 0, 1) := by decide +kernel
theorem d_Ck_made_14 : decode b_Ck_made 14 = .ok (.invokevirtual 103, 3) := by decide +kernel
theorem d_Ck_made_17 : decode b_Ck_made 17 = .ok (.goto 8, 3) := by decide +kernel
theorem d_Ck_made_20 : decode b_Ck_made 20 = .ok (.aload_n 0, 1) := by decide +kernel
theorem d_Ck_made_21 : decode b_Ck_made 21 = .ok (.iconst 1, 1) := by decide +kernel
theorem d_Ck_made_22 : decode b_Ck_made 22 = .ok (.invokevirtual 172, 3) := by decide +kernel
theorem d_Ck_made_25 : decode b_Ck_made 25 = .ok (.istore_n 2, 1) := by decide +kernel
theorem d_Ck_made_26 : decode b_Ck_made 26 = .ok (.iconst 0, 1) := by decide +kernel
theorem d_Ck_made_27 : decode b_Ck_made 27 = .ok (.istore_n 3, 1) := by decide +kernel
theorem d_Ck_made_28 : decode b_Ck_made 28 = .ok (.iload_n 3, 1) := by decide +kernel
theorem d_Ck_made_29 : decode b_Ck_made 29 = .ok (.bipush 20, 2) := by decide +kernel
theorem d_Ck_made_31 : decode b_Ck_made 31 = .ok (.aload_n 0, 1) := by decide +kernel
theorem d_Ck_made_32 : decode b_Ck_made 32 = .ok (.getfield 56, 3) := by decide +kernel
theorem d_Ck_made_35 : decode b_Ck_made 35 = .ok (.iadd, 1) := by decide +kernel
theorem d_Ck_made_36 : decode b_Ck_made 36 = .ok (.if_icmp .ge 26, 3) := by decide +kernel
theorem d_Ck_made_39 : decode b_Ck_made 39 = .ok (.aload_n 0, 1) := by decide +kernel
theorem d_Ck_made_40 : decode b_Ck_made 40 = .ok (.getfield 52, 3) := by decide +kernel
theorem d_Ck_made_43 : decode b_Ck_made 43 = .ok (.iload_n 3, 1) := by decide +kernel
theorem d_Ck_made_44 : decode b_Ck_made 44 = .ok (.iaload, 1) := by decide +kernel
theorem d_Ck_made_45 : decode b_Ck_made 45 = .ok (.iload_n 1, 1) := by decide +kernel
theorem d_Ck_made_46 : decode b_Ck_made 46 = .ok (.if_icmp .ne 10, 3) := by decide +kernel
theorem d_Ck_made_49 : decode b_Ck_made 49 = .ok (.aload_n 0, 1) := by decide +kernel
theorem d_Ck_made_50 : decode b_Ck_made 50 = .ok (.getfield 52, 3) := by decide +kernel
theorem d_Ck_made_53 : decode b_Ck_made 53 = .ok (.iload_n 3, 1) := by decide +kernel
theorem d_Ck_made_54 : decode b_Ck_made 54 = .ok (.iload_n 2, 1) := by decide +kernel
theorem d_Ck_made_55 : decode b_Ck_made 55 = .ok (.iastore, 1) := by decide +kernel
theorem d_Ck_made_56 : decode b_Ck_made 56 = .ok (.iinc 3 1, 3) := by decide +kernel
theorem d_Ck_made_59 : decode b_Ck_made 59 = .ok (.goto (-31), 3) := by decide +kernel
theorem d_Ck_made_62 : decode b_Ck_made 62 = .ok (.return_, 1) := by decide +kernel
abbrev ru_Ck_made : Room := { frames := 1, cells := 0, slots := 0, locals := 22 }
def wj_Ck_made_56 (y : Ly) (Post : St → Prop) (K_28 : St → Int32 → Int32 → Int32 → Prop) (a0 : Nat) (s_j56 : St) (x1j56 : Int32) (x2j56 : Int32) (x3j56 : Int32) : Prop := K_28 s_j56 x1j56 x2j56 (x3j56 + 1)
def wb_Ck_made_28 (y : Ly) (Post : St → Prop) (K_28 : St → Int32 → Int32 → Int32 → Prop) (a0 : Nat) (s_h28 : St) (x1h28 : Int32) (x2h28 : Int32) (x3h28 : Int32) : Prop := (((20 + (sV s_h28 a0 16)) ≤ x3h28 → Post s_h28) ∧ (¬ ((20 + (sV s_h28 a0 16)) ≤ x3h28) → xA y s_h28 a0 15 x3h28 (fun x_1 : Int32 => ((¬ x_1 = x1h28 → wj_Ck_made_56 y Post K_28 a0 s_h28 x1h28 x2h28 x3h28) ∧ (x_1 = x1h28 → xS y s_h28 a0 15 x3h28 x2h28 (fun s_2 : St => wj_Ck_made_56 y Post K_28 a0 s_2 x1h28 x2h28 x3h28))))))
def wl_Ck_made_28 (y : Ly) (Post : St → Prop) (a0 : Nat) (s_h28 : St) (x1h28 : Int32) (x2h28 : Int32) (x3h28 : Int32) : Prop := ∃ (I : St → Int32 → Int32 → Int32 → Prop) (μ : St → Int32 → Int32 → Int32 → Nat), I s_h28 x1h28 x2h28 x3h28 ∧ ∀ (u : St) (t0 : Int32) (t1 : Int32) (t2 : Int32), I u t0 t1 t2 → wb_Ck_made_28 y Post (fun z t0q t1q t2q => I z t0q t1q t2q ∧ μ z t0q t1q t2q < μ u t0 t1 t2) a0 u t0 t1 t2
def wj_Ck_made_25 (y : Ly) (Post : St → Prop) (a0 : Nat) (s_j25 : St) (x1j25 : Int32) (z0j25 : Int32) : Prop := wl_Ck_made_28 y Post a0 s_j25 x1j25 z0j25 0
def wu_Ck_made (y : Ly) (Post : St → Prop) (σ : St) (a0 : Nat) (v1 : Int32) : Prop := ((¬ v1 = 4 → wu_Ck_operand y (fun (s_4 : St) (r_3 : Int32) => wj_Ck_made_25 y Post a0 s_4 v1 r_3) σ a0 1) ∧ (v1 = 4 → ∃ b_5 : Nat, sO σ a0 3 = some b_5 ∧ cl b_5 = 9 ∧ wu_Wd_of y (fun (s_9 : St) (r_8 : Int32) => wj_Ck_made_25 y Post a0 s_9 v1 r_8) σ b_5 (sV σ a0 4) 0))
set_option maxHeartbeats 4000000 in
set_option maxRecDepth 100000 in
theorem cu_Ck_made (l : Launch) (D : va_G) (g : Nat → ClassId) (ad : Nat → Nat) (y : Ly) (Post : St → Prop) (σ : St) (a0 : Nat) (v1 : Int32) (sz : Nat) (h_a0 : cl a0 = 0) (h : wu_Ck_made y Post σ a0 v1) : Met l y_Ck_made (mw y_Ck_made b_Ck_made 4 (none)) ru_Ck_made (PC g D [] [.ref (ad a0), .int v1] sz (ws g ad y σ)) (va_Qv (fun u : St => Post u) (QW D (va_A (ws g ad y σ) sz) (fun u => ws g ad y u)) (va_A (ws g ad y σ) sz)) 0 0 (va_A (ws g ad y σ) sz) := by
  refine ofV (by decide +kernel) (Nat.le_of_ble_eq_true rfl) ?_
  intro p e s m args below meth c A Q ls H locs G hsz hP hD hS hl hret
  subst hsz
  have hl : lv_has ls 4 [(0, .ref (ad a0)), (1, .int v1)] := hl
  unfold wu_Ck_made at h
  refine lv_iload_n G.1 G.2.1 d_Ck_made_0 rfl (lv_at hl 1 rfl) ?_
  refine lv_iconst (v := 4) G.1 G.2.1 d_Ck_made_1 (by decide) ?_
  have J_25 : ∀ (s_j25 : St) (x1j25 : Int32) (z0j25 : Int32) (H : Heap) (locs : List Loc), wj_Ck_made_25 y Post a0 s_j25 x1j25 z0j25 → va_P D CL (ws g ad y s_j25) H → va_D A (ws g ad y s_j25) → va_S A s.heap H locs → ∀ ls, lv_has ls 4 [(0, .ref (ad a0)), (1, .int x1j25)] → W p l e ru_Ck_made s m args below meth c H locs 0 0 Q (F0 m 25 ls [.int z0j25]) := by
    intro s_j25 x1j25 z0j25 H locs h hP hD hS ls hl
    unfold wj_Ck_made_25 at h
    refine lv_istore_n (lv' := [(2, .int z0j25), (0, .ref (ad a0)), (1, .int x1j25)]) G.1 G.2.1 d_Ck_made_25 rfl hl (by decide) rfl (fun ls hl => ?_)
    refine lv_iconst (v := 0) G.1 G.2.1 d_Ck_made_26 (by decide) ?_
    refine lv_istore_n (lv' := [(3, .int 0), (2, .int z0j25), (0, .ref (ad a0)), (1, .int x1j25)]) G.1 G.2.1 d_Ck_made_27 rfl hl (by decide) rfl (fun ls hl => ?_)
    unfold wl_Ck_made_28 at h
    obtain ⟨I_28, μ_28, hI_28, hB_28⟩ := h
    have L_28 : ∀ (n_28 : Nat) (s_h28 : St) (x1h28 : Int32) (x2h28 : Int32) (x3h28 : Int32), μ_28 s_h28 x1h28 x2h28 x3h28 < n_28 → I_28 s_h28 x1h28 x2h28 x3h28 → ∀ (H : Heap) (locs : List Loc), va_P D CL (ws g ad y s_h28) H → va_D A (ws g ad y s_h28) → va_S A s.heap H locs → ∀ ls, lv_has ls 4 [(0, .ref (ad a0)), (1, .int x1h28), (2, .int x2h28), (3, .int x3h28)] → W p l e ru_Ck_made s m args below meth c H locs 0 0 Q (F0 m 28 ls []) := by
      intro n_28
      induction n_28 with
      | zero => intro s_h28 x1h28 x2h28 x3h28 hμ; exact absurd hμ (Nat.not_lt_zero _)
      | succ n_28 ih_28 =>
        intro s_h28 x1h28 x2h28 x3h28 hμ_28 hJ H locs hP hD hS ls hl
        obtain ⟨K_28, hK_28, h⟩ : ∃ K : St → Int32 → Int32 → Int32 → Prop, (∀ z (t0 : Int32) (t1 : Int32) (t2 : Int32), K z t0 t1 t2 → I_28 z t0 t1 t2 ∧ μ_28 z t0 t1 t2 < μ_28 s_h28 x1h28 x2h28 x3h28) ∧ wb_Ck_made_28 y Post K a0 s_h28 x1h28 x2h28 x3h28 := ⟨_, fun _ _ _ _ h => h, hB_28 s_h28 x1h28 x2h28 x3h28 hJ⟩
        unfold wb_Ck_made_28 at h
        refine lv_iload_n G.1 G.2.1 d_Ck_made_28 rfl (lv_at hl 3 rfl) ?_
        refine lv_bipush (v := 20) G.1 G.2.1 d_Ck_made_29 (by decide) ?_
        refine lv_aload_n G.1 G.2.1 d_Ck_made_31 rfl (lv_at hl 0 rfl) ?_
        refine ugf (v := .int (sV s_h28 a0 16)) G hP h_a0 iCk rfl 16 (by decide) rfl q667 rfl rfl d_Ck_made_32 ?_
        refine lv_iadd G.1 G.2.1 d_Ck_made_35 ?_
        refine lv_icmp_ge (tgt := 62) G.1 G.2.1 d_Ck_made_36 (by decide) (fun c36 => ?_) (fun c36 => ?_)
        · skip
          have h := h.1 c36
          exact hret _ _ _ _ _ _ ls h hP hD hS (Nat.le_refl _) (Nat.le_refl _) d_Ck_made_62
        · skip
          have h := h.2 c36
          refine lv_aload_n G.1 G.2.1 d_Ck_made_39 rfl (lv_at hl 0 rfl) ?_
          refine ugf (v := .ref (yP y a0 15)) G hP h_a0 iCk rfl 15 (by decide) rfl q666 rfl rfl d_Ck_made_40 ?_
          refine lv_iload_n G.1 G.2.1 d_Ck_made_43 rfl (lv_at hl 3 rfl) ?_
          refine uiald G hP (kdp h_a0 rfl) (typ h_a0 rfl) h d_Ck_made_44 (fun x_1 h => ?_)
          refine lv_iload_n G.1 G.2.1 d_Ck_made_45 rfl (lv_at hl 1 rfl) ?_
          have J_56 : ∀ (s_j56 : St) (x1j56 : Int32) (x2j56 : Int32) (x3j56 : Int32) (H : Heap) (locs : List Loc), wj_Ck_made_56 y Post K_28 a0 s_j56 x1j56 x2j56 x3j56 → va_P D CL (ws g ad y s_j56) H → va_D A (ws g ad y s_j56) → va_S A s.heap H locs → ∀ ls, lv_has ls 4 [(0, .ref (ad a0)), (1, .int x1j56), (2, .int x2j56), (3, .int x3j56)] → W p l e ru_Ck_made s m args below meth c H locs 0 0 Q (F0 m 56 ls []) := by
            intro s_j56 x1j56 x2j56 x3j56 H locs h hP hD hS ls hl
            unfold wj_Ck_made_56 at h
            refine lv_iinc (v := x3j56 + 1) (lv' := [(3, .int (x3j56 + 1)), (0, .ref (ad a0)), (1, .int x1j56), (2, .int x2j56)]) G.1 G.2.1 d_Ck_made_56 hl (k := 3) rfl rfl (by decide) rfl (fun ls hl => ?_)
            refine lv_goto (tgt := 28) G.1 G.2.1 d_Ck_made_59 (by decide) ?_
            have h := hK_28 s_j56 x1j56 x2j56 (x3j56 + 1) h
            exact ih_28 s_j56 x1j56 x2j56 (x3j56 + 1) (Nat.lt_of_lt_of_le h.2 (Nat.le_of_lt_succ hμ_28)) h.1 H locs hP hD hS ls (lv_sub hl [1, 2, 3, 0] rfl)
          refine W.eq (g2 := F0 m 46 ls [.int x1h28, .int x_1]) rfl ?_
          refine lv_icmp_ne (tgt := 56) G.1 G.2.1 d_Ck_made_46 (by decide) (fun c46 => ?_) (fun c46 => ?_)
          · skip
            have h := h.1 c46
            exact J_56 s_h28 x1h28 x2h28 x3h28 H locs h hP hD hS ls (lv_sub hl [0, 1, 2, 3] rfl)
          · skip
            have h := h.2 c46
            refine lv_aload_n G.1 G.2.1 d_Ck_made_49 rfl (lv_at hl 0 rfl) ?_
            refine ugf (v := .ref (yP y a0 15)) G hP h_a0 iCk rfl 15 (by decide) rfl q666 rfl rfl d_Ck_made_50 ?_
            refine lv_iload_n G.1 G.2.1 d_Ck_made_53 rfl (lv_at hl 3 rfl) ?_
            refine lv_iload_n G.1 G.2.1 d_Ck_made_54 rfl (lv_at hl 2 rfl) ?_
            refine uiast G hP hD hS (kdp h_a0 rfl) (typ h_a0 rfl) h d_Ck_made_55 (fun s_2 H locs h hP hD hS => ?_)
            exact J_56 s_2 x1h28 x2h28 x3h28 H locs h hP hD hS ls (lv_sub hl [0, 1, 2, 3] rfl)
    exact L_28 _ s_j25 x1j25 z0j25 0 (Nat.lt_succ_self _) hI_28 H locs hP hD hS ls (lv_sub hl [2, 3, 1, 0] rfl)
  refine lv_icmp_ne (tgt := 20) G.1 G.2.1 d_Ck_made_2 (by decide) (fun c2 => ?_) (fun c2 => ?_)
  · skip
    have h := h.1 c2
    refine lv_aload_n G.1 G.2.1 d_Ck_made_20 rfl (lv_at hl 0 rfl) ?_
    refine lv_iconst (v := 1) G.1 G.2.1 d_Ck_made_21 (by decide) ?_
    refine ucVi (As := [.int 1]) (rest := []) G hP hD hS (cu_Ck_operand l D g ad y _ σ a0 1 H.size h_a0 h) w9_Ck_operand q1607 ⟨Nat.le_of_ble_eq_true rfl, Nat.le_of_ble_eq_true rfl⟩ rfl rfl h_a0 (q := (RCk, TCk, 22)) rfl rfl hl.1 rfl (Nat.le_of_ble_eq_true rfl) rfl ⟨Nat.le_refl _, Nat.le_refl _⟩ d_Ck_made_22 (fun r_3 s_4 H locs h hP hD hS => ?_)
    exact J_25 s_4 v1 r_3 H locs h hP hD hS ls (lv_sub hl [0, 1] rfl)
  · skip
    have h := h.2 c2
    refine lv_aload_n G.1 G.2.1 d_Ck_made_5 rfl (lv_at hl 0 rfl) ?_
    obtain ⟨b_5, e_6, c_7, h⟩ := h
    refine ugf (v := .ref (ad b_5)) G hP h_a0 iCk rfl 3 (by decide) rfl q654 rfl (by show va_rf ((sO σ a0 3).map ad) = _; rw [e_6]; rfl) d_Ck_made_6 ?_
    refine lv_aload_n G.1 G.2.1 d_Ck_made_9 rfl (lv_at hl 0 rfl) ?_
    refine ugf (v := .int (sV σ a0 4)) G hP h_a0 iCk rfl 4 (by decide) rfl q655 rfl rfl d_Ck_made_10 ?_
    refine lv_iconst (v := 0) G.1 G.2.1 d_Ck_made_13 (by decide) ?_
    refine ucVi (As := [.int (sV σ a0 4), .int 0]) (rest := []) G hP hD hS (cu_Wd_of l D g ad y _ σ b_5 (sV σ a0 4) 0 H.size c_7 h) w9_Wd_of q1587 ⟨Nat.le_of_ble_eq_true rfl, Nat.le_of_ble_eq_true rfl⟩ rfl rfl c_7 (q := (RWd, TWd, 17)) rfl rfl hl.1 rfl (Nat.le_of_ble_eq_true rfl) rfl ⟨Nat.le_refl _, Nat.le_refl _⟩ d_Ck_made_14 (fun r_8 s_9 H locs h hP hD hS => ?_)
    refine lv_goto (tgt := 25) G.1 G.2.1 d_Ck_made_17 (by decide) ?_
    exact J_25 s_9 v1 r_8 H locs h hP hD hS ls (lv_sub hl [0, 1] rfl)
def y_Ck_changesLocals : MethodName := ⟨"ClassWorks$Checker", "changesLocals", "()Z"⟩
abbrev b_Ck_changesLocals : ByteArray := prog_2_method_15_code
theorem d_Ck_changesLocals_0 : decode b_Ck_changesLocals 0 = .ok (.aload_n 0, 1) := by decide +kernel
theorem d_Ck_changesLocals_1 : decode b_Ck_changesLocals 1 = .ok (.getfield 43, 3) := by decide +kernel
theorem d_Ck_changesLocals_4 : decode b_Ck_changesLocals 4 = .ok (.iconst 5, 1) := by decide +kernel
theorem d_Ck_changesLocals_5 : decode b_Ck_changesLocals 5 = .ok (.if_icmp .eq 28, 3) := by decide +kernel
theorem d_Ck_changesLocals_8 : decode b_Ck_changesLocals 8 = .ok (.aload_n 0, 1) := by decide +kernel
theorem d_Ck_changesLocals_9 : decode b_Ck_changesLocals 9 = .ok (.getfield 43, 3) := by decide +kernel
theorem d_Ck_changesLocals_12 : decode b_Ck_changesLocals 12 = .ok (.bipush 6, 2) := by decide +kernel
theorem d_Ck_changesLocals_14 : decode b_Ck_changesLocals 14 = .ok (.if_icmp .eq 19, 3) := by decide +kernel
theorem d_Ck_changesLocals_17 : decode b_Ck_changesLocals 17 = .ok (.aload_n 0, 1) := by decide +kernel
theorem d_Ck_changesLocals_18 : decode b_Ck_changesLocals 18 = .ok (.getfield 43, 3) := by decide +kernel
theorem d_Ck_changesLocals_21 : decode b_Ck_changesLocals 21 = .ok (.bipush 51, 2) := by decide +kernel
theorem d_Ck_changesLocals_23 : decode b_Ck_changesLocals 23 = .ok (.if_icmp .ne 14, 3) := by decide +kernel
theorem d_Ck_changesLocals_26 : decode b_Ck_changesLocals 26 = .ok (.aload_n 0, 1) := by decide +kernel
theorem d_Ck_changesLocals_27 : decode b_Ck_changesLocals 27 = .ok (.getfield 49, 3) := by decide +kernel
theorem d_Ck_changesLocals_30 : decode b_Ck_changesLocals 30 = .ok (.ifCond .eq 7, 3) := by decide +kernel
theorem d_Ck_changesLocals_33 : decode b_Ck_changesLocals 33 = .ok (.iconst 1, 1) := by decide +kernel
theorem d_Ck_changesLocals_34 : decode b_Ck_changesLocals 34 = .ok (.goto 4, 3) := by decide +kernel
theorem d_Ck_changesLocals_37 : decode b_Ck_changesLocals 37 = .ok (.iconst 0, 1) := by decide +kernel
theorem d_Ck_changesLocals_38 : decode b_Ck_changesLocals 38 = .ok (.ireturn, 1) := by decide +kernel
abbrev ru_Ck_changesLocals : Room := { frames := 0, cells := 0, slots := 0, locals := 0 }
def wj_Ck_changesLocals_38 (y : Ly) (Post : St → Int32 → Prop) (a0 : Nat) (s_j38 : St) (z0j38 : Int32) : Prop := (nb z0j38 ∧ Post s_j38 z0j38)
def wj_Ck_changesLocals_33 (y : Ly) (Post : St → Int32 → Prop) (a0 : Nat) (s_j33 : St) : Prop := wj_Ck_changesLocals_38 y Post a0 s_j33 1
def wj_Ck_changesLocals_37 (y : Ly) (Post : St → Int32 → Prop) (a0 : Nat) (s_j37 : St) : Prop := wj_Ck_changesLocals_38 y Post a0 s_j37 0
def wu_Ck_changesLocals (y : Ly) (Post : St → Int32 → Prop) (σ : St) (a0 : Nat) : Prop := (((sV σ a0 12) = 5 → wj_Ck_changesLocals_33 y Post a0 σ) ∧ (¬ ((sV σ a0 12) = 5) → (((sV σ a0 12) = 6 → wj_Ck_changesLocals_33 y Post a0 σ) ∧ (¬ ((sV σ a0 12) = 6) → ((¬ (sV σ a0 12) = 51 → wj_Ck_changesLocals_37 y Post a0 σ) ∧ ((sV σ a0 12) = 51 → (((sV σ a0 14) = 0 → wj_Ck_changesLocals_37 y Post a0 σ) ∧ (¬ ((sV σ a0 14) = 0) → wj_Ck_changesLocals_33 y Post a0 σ))))))))
set_option maxHeartbeats 4000000 in
set_option maxRecDepth 100000 in
theorem cu_Ck_changesLocals (l : Launch) (D : va_G) (g : Nat → ClassId) (ad : Nat → Nat) (y : Ly) (Post : St → Int32 → Prop) (σ : St) (a0 : Nat) (sz : Nat) (h_a0 : cl a0 = 0) (h : wu_Ck_changesLocals y Post σ a0) : Met l y_Ck_changesLocals (mw y_Ck_changesLocals b_Ck_changesLocals 1 (some (.boolean))) ru_Ck_changesLocals (PC g D [] [.ref (ad a0)] sz (ws g ad y σ)) (va_Qi (fun (r : Int32) (u : St) => Post u r) (QW D (va_A (ws g ad y σ) sz) (fun u => ws g ad y u)) (va_A (ws g ad y σ) sz)) 0 0 (va_A (ws g ad y σ) sz) := by
  refine ofZ (by decide +kernel) (Nat.le_of_ble_eq_true rfl) ?_
  intro p e s m args below meth c A Q ls H locs G hsz hP hD hS hl hret
  subst hsz
  have hl : lv_has ls 1 [(0, .ref (ad a0))] := hl
  unfold wu_Ck_changesLocals at h
  refine lv_aload_n G.1 G.2.1 d_Ck_changesLocals_0 rfl (lv_at hl 0 rfl) ?_
  refine ugf (v := .int (sV σ a0 12)) G hP h_a0 iCk rfl 12 (by decide) rfl q663 rfl rfl d_Ck_changesLocals_1 ?_
  refine lv_iconst (v := 5) G.1 G.2.1 d_Ck_changesLocals_4 (by decide) ?_
  have J_38 : ∀ (s_j38 : St) (z0j38 : Int32) (H : Heap) (locs : List Loc), wj_Ck_changesLocals_38 y Post a0 s_j38 z0j38 → va_P D CL (ws g ad y s_j38) H → va_D A (ws g ad y s_j38) → va_S A s.heap H locs → ∀ ls, lv_has ls 1 [] → W p l e ru_Ck_changesLocals s m args below meth c H locs 0 0 Q (F0 m 38 ls [.int z0j38]) := by
    intro s_j38 z0j38 H locs h hP hD hS ls hl
    unfold wj_Ck_changesLocals_38 at h
    exact hret _ _ _ _ _ _ _ ls (nb_n h.1) h.2 hP hD hS (Nat.le_refl _) (Nat.le_refl _) d_Ck_changesLocals_38
  have J_33 : ∀ (s_j33 : St) (H : Heap) (locs : List Loc), wj_Ck_changesLocals_33 y Post a0 s_j33 → va_P D CL (ws g ad y s_j33) H → va_D A (ws g ad y s_j33) → va_S A s.heap H locs → ∀ ls, lv_has ls 1 [] → W p l e ru_Ck_changesLocals s m args below meth c H locs 0 0 Q (F0 m 33 ls []) := by
    intro s_j33 H locs h hP hD hS ls hl
    unfold wj_Ck_changesLocals_33 at h
    refine lv_iconst (v := 1) G.1 G.2.1 d_Ck_changesLocals_33 (by decide) ?_
    refine lv_goto (tgt := 38) G.1 G.2.1 d_Ck_changesLocals_34 (by decide) ?_
    exact J_38 s_j33 1 H locs h hP hD hS ls (lv_sub hl [] rfl)
  refine lv_icmp_eq (tgt := 33) G.1 G.2.1 d_Ck_changesLocals_5 (by decide) (fun c5 => ?_) (fun c5 => ?_)
  · skip
    have h := h.1 c5
    exact J_33 σ H locs h hP hD hS ls (lv_sub hl [] rfl)
  · skip
    have h := h.2 c5
    refine lv_aload_n G.1 G.2.1 d_Ck_changesLocals_8 rfl (lv_at hl 0 rfl) ?_
    refine ugf (v := .int (sV σ a0 12)) G hP h_a0 iCk rfl 12 (by decide) rfl q663 rfl rfl d_Ck_changesLocals_9 ?_
    refine lv_bipush (v := 6) G.1 G.2.1 d_Ck_changesLocals_12 (by decide) ?_
    refine lv_icmp_eq (tgt := 33) G.1 G.2.1 d_Ck_changesLocals_14 (by decide) (fun c14 => ?_) (fun c14 => ?_)
    · skip
      have h := h.1 c14
      exact J_33 σ H locs h hP hD hS ls (lv_sub hl [] rfl)
    · skip
      have h := h.2 c14
      refine lv_aload_n G.1 G.2.1 d_Ck_changesLocals_17 rfl (lv_at hl 0 rfl) ?_
      refine ugf (v := .int (sV σ a0 12)) G hP h_a0 iCk rfl 12 (by decide) rfl q663 rfl rfl d_Ck_changesLocals_18 ?_
      refine lv_bipush (v := 51) G.1 G.2.1 d_Ck_changesLocals_21 (by decide) ?_
      have J_37 : ∀ (s_j37 : St) (H : Heap) (locs : List Loc), wj_Ck_changesLocals_37 y Post a0 s_j37 → va_P D CL (ws g ad y s_j37) H → va_D A (ws g ad y s_j37) → va_S A s.heap H locs → ∀ ls, lv_has ls 1 [] → W p l e ru_Ck_changesLocals s m args below meth c H locs 0 0 Q (F0 m 37 ls []) := by
        intro s_j37 H locs h hP hD hS ls hl
        unfold wj_Ck_changesLocals_37 at h
        refine lv_iconst (v := 0) G.1 G.2.1 d_Ck_changesLocals_37 (by decide) ?_
        exact J_38 s_j37 0 H locs h hP hD hS ls (lv_sub hl [] rfl)
      refine W.eq (g2 := F0 m 23 ls [.int 51, .int (sV σ a0 12)]) rfl ?_
      refine lv_icmp_ne (tgt := 37) G.1 G.2.1 d_Ck_changesLocals_23 (by decide) (fun c23 => ?_) (fun c23 => ?_)
      · skip
        have h := h.1 c23
        exact J_37 σ H locs h hP hD hS ls (lv_sub hl [] rfl)
      · skip
        have h := h.2 c23
        refine lv_aload_n G.1 G.2.1 d_Ck_changesLocals_26 rfl (lv_at hl 0 rfl) ?_
        refine ugf (v := .int (sV σ a0 14)) G hP h_a0 iCk rfl 14 (by decide) rfl q665 rfl rfl d_Ck_changesLocals_27 ?_
        refine lv_if_eq (tgt := 37) G.1 G.2.1 d_Ck_changesLocals_30 (by decide) (fun c30 => ?_) (fun c30 => ?_)
        · skip
          have h := h.1 c30
          exact J_37 σ H locs h hP hD hS ls (lv_sub hl [] rfl)
        · skip
          have h := h.2 c30
          exact J_33 σ H locs h hP hD hS ls (lv_sub hl [] rfl)
def y_Ck_labelCount : MethodName := ⟨"ClassWorks$Checker", "labelCount", "()I"⟩
abbrev b_Ck_labelCount : ByteArray := prog_2_method_26_code
theorem d_Ck_labelCount_0 : decode b_Ck_labelCount 0 = .ok (.aload_n 0, 1) := by decide +kernel
theorem d_Ck_labelCount_1 : decode b_Ck_labelCount 1 = .ok (.getfield 43, 3) := by decide +kernel
theorem d_Ck_labelCount_4 : decode b_Ck_labelCount 4 = .ok (.bipush 40, 2) := by decide +kernel
theorem d_Ck_labelCount_6 : decode b_Ck_labelCount 6 = .ok (.if_icmp .ne 11, 3) := by decide +kernel
theorem d_Ck_labelCount_9 : decode b_Ck_labelCount 9 = .ok (.aload_n 0, 1) := by decide +kernel
theorem d_Ck_labelCount_10 : decode b_Ck_labelCount 10 = .ok (.iconst 3, 1) := by decide +kernel
theorem d_Ck_labelCount_11 : decode b_Ck_labelCount 11 = .ok (.invokevirtual 172, 3) := by decide +kernel
theorem d_Ck_labelCount_14 : decode b_Ck_labelCount 14 = .ok (.goto 26, 3) := by decide +kernel
theorem d_Ck_labelCount_17 : decode b_Ck_labelCount 17 = .ok (.aload_n 0, 1) := by decide +kernel
theorem d_Ck_labelCount_18 : decode b_Ck_labelCount 18 = .ok (.getfield 43, 3) := by decide +kernel
theorem d_Ck_labelCount_21 : decode b_Ck_labelCount 21 = .ok (.bipush 23, 2) := by decide +kernel
theorem d_Ck_labelCount_23 : decode b_Ck_labelCount 23 = .ok (.if_icmp .lt 16, 3) := by decide +kernel
theorem d_Ck_labelCount_26 : decode b_Ck_labelCount 26 = .ok (.aload_n 0, 1) := by decide +kernel
theorem d_Ck_labelCount_27 : decode b_Ck_labelCount 27 = .ok (.getfield 43, 3) := by decide +kernel
theorem d_Ck_labelCount_30 : decode b_Ck_labelCount 30 = .ok (.bipush 40, 2) := by decide +kernel
theorem d_Ck_labelCount_32 : decode b_Ck_labelCount 32 = .ok (.if_icmp .ge 7, 3) := by decide +kernel
theorem d_Ck_labelCount_35 : decode b_Ck_labelCount 35 = .ok (.iconst 1, 1) := by decide +kernel
theorem d_Ck_labelCount_36 : decode b_Ck_labelCount 36 = .ok (.goto 4, 3) := by decide +kernel
theorem d_Ck_labelCount_39 : decode b_Ck_labelCount 39 = .ok (.iconst 0, 1) := by decide +kernel
theorem d_Ck_labelCount_40 : decode b_Ck_labelCount 40 = .ok (.ireturn, 1) := by decide +kernel
abbrev ru_Ck_labelCount : Room := { frames := 1, cells := 0, slots := 0, locals := 21 }
def wj_Ck_labelCount_40 (y : Ly) (Post : St → Int32 → Prop) (a0 : Nat) (s_j40 : St) (z0j40 : Int32) : Prop := Post s_j40 z0j40
def wj_Ck_labelCount_39 (y : Ly) (Post : St → Int32 → Prop) (a0 : Nat) (s_j39 : St) : Prop := wj_Ck_labelCount_40 y Post a0 s_j39 0
def wu_Ck_labelCount (y : Ly) (Post : St → Int32 → Prop) (σ : St) (a0 : Nat) : Prop := ((¬ (sV σ a0 12) = 40 → (((sV σ a0 12) < 23 → wj_Ck_labelCount_39 y Post a0 σ) ∧ (¬ ((sV σ a0 12) < 23) → ((40 ≤ (sV σ a0 12) → wj_Ck_labelCount_39 y Post a0 σ) ∧ (¬ (40 ≤ (sV σ a0 12)) → wj_Ck_labelCount_40 y Post a0 σ 1))))) ∧ ((sV σ a0 12) = 40 → wu_Ck_operand y (fun (s_2 : St) (r_1 : Int32) => wj_Ck_labelCount_40 y Post a0 s_2 r_1) σ a0 3))
set_option maxHeartbeats 4000000 in
set_option maxRecDepth 100000 in
theorem cu_Ck_labelCount (l : Launch) (D : va_G) (g : Nat → ClassId) (ad : Nat → Nat) (y : Ly) (Post : St → Int32 → Prop) (σ : St) (a0 : Nat) (sz : Nat) (h_a0 : cl a0 = 0) (h : wu_Ck_labelCount y Post σ a0) : Met l y_Ck_labelCount (mw y_Ck_labelCount b_Ck_labelCount 1 (some .int)) ru_Ck_labelCount (PC g D [] [.ref (ad a0)] sz (ws g ad y σ)) (va_Qi (fun (r : Int32) (u : St) => Post u r) (QW D (va_A (ws g ad y σ) sz) (fun u => ws g ad y u)) (va_A (ws g ad y σ) sz)) 0 0 (va_A (ws g ad y σ) sz) := by
  refine ofI (by decide +kernel) (Nat.le_of_ble_eq_true rfl) ?_
  intro p e s m args below meth c A Q ls H locs G hsz hP hD hS hl hret
  subst hsz
  have hl : lv_has ls 1 [(0, .ref (ad a0))] := hl
  unfold wu_Ck_labelCount at h
  refine lv_aload_n G.1 G.2.1 d_Ck_labelCount_0 rfl (lv_at hl 0 rfl) ?_
  refine ugf (v := .int (sV σ a0 12)) G hP h_a0 iCk rfl 12 (by decide) rfl q663 rfl rfl d_Ck_labelCount_1 ?_
  refine lv_bipush (v := 40) G.1 G.2.1 d_Ck_labelCount_4 (by decide) ?_
  have J_40 : ∀ (s_j40 : St) (z0j40 : Int32) (H : Heap) (locs : List Loc), wj_Ck_labelCount_40 y Post a0 s_j40 z0j40 → va_P D CL (ws g ad y s_j40) H → va_D A (ws g ad y s_j40) → va_S A s.heap H locs → ∀ ls, lv_has ls 1 [] → W p l e ru_Ck_labelCount s m args below meth c H locs 0 0 Q (F0 m 40 ls [.int z0j40]) := by
    intro s_j40 z0j40 H locs h hP hD hS ls hl
    unfold wj_Ck_labelCount_40 at h
    exact hret _ _ _ _ _ _ _ ls h hP hD hS (Nat.le_refl _) (Nat.le_refl _) d_Ck_labelCount_40
  refine lv_icmp_ne (tgt := 17) G.1 G.2.1 d_Ck_labelCount_6 (by decide) (fun c6 => ?_) (fun c6 => ?_)
  · skip
    have h := h.1 c6
    refine lv_aload_n G.1 G.2.1 d_Ck_labelCount_17 rfl (lv_at hl 0 rfl) ?_
    refine ugf (v := .int (sV σ a0 12)) G hP h_a0 iCk rfl 12 (by decide) rfl q663 rfl rfl d_Ck_labelCount_18 ?_
    refine lv_bipush (v := 23) G.1 G.2.1 d_Ck_labelCount_21 (by decide) ?_
    have J_39 : ∀ (s_j39 : St) (H : Heap) (locs : List Loc), wj_Ck_labelCount_39 y Post a0 s_j39 → va_P D CL (ws g ad y s_j39) H → va_D A (ws g ad y s_j39) → va_S A s.heap H locs → ∀ ls, lv_has ls 1 [] → W p l e ru_Ck_labelCount s m args below meth c H locs 0 0 Q (F0 m 39 ls []) := by
      intro s_j39 H locs h hP hD hS ls hl
      unfold wj_Ck_labelCount_39 at h
      refine lv_iconst (v := 0) G.1 G.2.1 d_Ck_labelCount_39 (by decide) ?_
      exact J_40 s_j39 0 H locs h hP hD hS ls (lv_sub hl [] rfl)
    refine lv_icmp_lt (tgt := 39) G.1 G.2.1 d_Ck_labelCount_23 (by decide) (fun c23 => ?_) (fun c23 => ?_)
    · skip
      have h := h.1 c23
      exact J_39 σ H locs h hP hD hS ls (lv_sub hl [] rfl)
    · skip
      have h := h.2 c23
      refine lv_aload_n G.1 G.2.1 d_Ck_labelCount_26 rfl (lv_at hl 0 rfl) ?_
      refine ugf (v := .int (sV σ a0 12)) G hP h_a0 iCk rfl 12 (by decide) rfl q663 rfl rfl d_Ck_labelCount_27 ?_
      refine lv_bipush (v := 40) G.1 G.2.1 d_Ck_labelCount_30 (by decide) ?_
      refine W.eq (g2 := F0 m 32 ls [.int 40, .int (sV σ a0 12)]) rfl ?_
      refine lv_icmp_ge (tgt := 39) G.1 G.2.1 d_Ck_labelCount_32 (by decide) (fun c32 => ?_) (fun c32 => ?_)
      · skip
        have h := h.1 c32
        exact J_39 σ H locs h hP hD hS ls (lv_sub hl [] rfl)
      · skip
        have h := h.2 c32
        refine lv_iconst (v := 1) G.1 G.2.1 d_Ck_labelCount_35 (by decide) ?_
        refine lv_goto (tgt := 40) G.1 G.2.1 d_Ck_labelCount_36 (by decide) ?_
        exact J_40 σ 1 H locs h hP hD hS ls (lv_sub hl [] rfl)
  · skip
    have h := h.2 c6
    refine lv_aload_n G.1 G.2.1 d_Ck_labelCount_9 rfl (lv_at hl 0 rfl) ?_
    refine lv_iconst (v := 3) G.1 G.2.1 d_Ck_labelCount_10 (by decide) ?_
    refine ucVi (As := [.int 3]) (rest := []) G hP hD hS (cu_Ck_operand l D g ad y _ σ a0 3 H.size h_a0 h) w9_Ck_operand q1607 ⟨Nat.le_of_ble_eq_true rfl, Nat.le_of_ble_eq_true rfl⟩ rfl rfl h_a0 (q := (RCk, TCk, 22)) rfl rfl hl.1 rfl (Nat.le_of_ble_eq_true rfl) rfl ⟨Nat.le_refl _, Nat.le_refl _⟩ d_Ck_labelCount_11 (fun r_1 s_2 H locs h hP hD hS => ?_)
    refine lv_goto (tgt := 40) G.1 G.2.1 d_Ck_labelCount_14 (by decide) ?_
    exact J_40 s_2 r_1 H locs h hP hD hS ls (lv_sub hl [] rfl)
def y_Ck_label : MethodName := ⟨"ClassWorks$Checker", "label", "(I)I"⟩
abbrev b_Ck_label : ByteArray := prog_2_method_27_code
theorem d_Ck_label_0 : decode b_Ck_label 0 = .ok (.aload_n 0, 1) := by decide +kernel
theorem d_Ck_label_1 : decode b_Ck_label 1 = .ok (.getfield 43, 3) := by decide +kernel
theorem d_Ck_label_4 : decode b_Ck_label 4 = .ok (.bipush 40, 2) := by decide +kernel
theorem d_Ck_label_6 : decode b_Ck_label 6 = .ok (.if_icmp .ne 24, 3) := by decide +kernel
theorem d_Ck_label_9 : decode b_Ck_label 9 = .ok (.aload_n 0, 1) := by decide +kernel
theorem d_Ck_label_10 : decode b_Ck_label 10 = .ok (.getfield 78, 3) := by decide +kernel
theorem d_Ck_label_13 : decode b_Ck_label 13 = .ok (.getfield 183, 3) := by decide +kernel
theorem d_Ck_label_16 : decode b_Ck_label 16 = .ok (.getfield 116, 3) := by decide +kernel
theorem d_Ck_label_19 : decode b_Ck_label 19 = .ok (.aload_n 0, 1) := by decide +kernel
theorem d_Ck_label_20 : decode b_Ck_label 20 = .ok (.iconst 2, 1) := by decide +kernel
theorem d_Ck_label_21 : decode b_Ck_label 21 = .ok (.invokevirtual 172, 3) := by decide +kernel
theorem d_Ck_label_24 : decode b_Ck_label 24 = .ok (.iload_n 1, 1) := by decide +kernel
theorem d_Ck_label_25 : decode b_Ck_label 25 = .ok (.iadd, 1) := by decide +kernel
theorem d_Ck_label_26 : decode b_Ck_label 26 = .ok (.iaload, 1) := by decide +kernel
theorem d_Ck_label_27 : decode b_Ck_label 27 = .ok (.goto 8, 3) := by decide +kernel
theorem d_Ck_label_30 : decode b_Ck_label 30 = .ok (.aload_n 0, 1) := by decide +kernel
theorem d_Ck_label_31 : decode b_Ck_label 31 = .ok (.iconst 1, 1) := by decide +kernel
theorem d_Ck_label_32 : decode b_Ck_label 32 = .ok (.invokevirtual 172, 3) := by decide +kernel
theorem d_Ck_label_35 : decode b_Ck_label 35 = .ok (.ireturn, 1) := by decide +kernel
abbrev ru_Ck_label : Room := { frames := 1, cells := 0, slots := 0, locals := 21 }
def wj_Ck_label_35 (y : Ly) (Post : St → Int32 → Prop) (a0 : Nat) (s_j35 : St) (z0j35 : Int32) : Prop := Post s_j35 z0j35
def wu_Ck_label (y : Ly) (Post : St → Int32 → Prop) (σ : St) (a0 : Nat) (v1 : Int32) : Prop := ((¬ (sV σ a0 12) = 40 → wu_Ck_operand y (fun (s_2 : St) (r_1 : Int32) => wj_Ck_label_35 y Post a0 s_2 r_1) σ a0 1) ∧ ((sV σ a0 12) = 40 → ∃ b_3 : Nat, sO σ a0 3 = some b_3 ∧ cl b_3 = 9 ∧ wu_Ck_operand y (fun (s_7 : St) (r_6 : Int32) => xA y s_7 (lk b_3 12) 0 (r_6 + v1) (fun x_8 : Int32 => wj_Ck_label_35 y Post a0 s_7 x_8)) σ a0 2))
set_option maxHeartbeats 4000000 in
set_option maxRecDepth 100000 in
theorem cu_Ck_label (l : Launch) (D : va_G) (g : Nat → ClassId) (ad : Nat → Nat) (y : Ly) (Post : St → Int32 → Prop) (σ : St) (a0 : Nat) (v1 : Int32) (sz : Nat) (h_a0 : cl a0 = 0) (h : wu_Ck_label y Post σ a0 v1) : Met l y_Ck_label (mw y_Ck_label b_Ck_label 2 (some .int)) ru_Ck_label (PC g D [] [.ref (ad a0), .int v1] sz (ws g ad y σ)) (va_Qi (fun (r : Int32) (u : St) => Post u r) (QW D (va_A (ws g ad y σ) sz) (fun u => ws g ad y u)) (va_A (ws g ad y σ) sz)) 0 0 (va_A (ws g ad y σ) sz) := by
  refine ofI (by decide +kernel) (Nat.le_of_ble_eq_true rfl) ?_
  intro p e s m args below meth c A Q ls H locs G hsz hP hD hS hl hret
  subst hsz
  have hl : lv_has ls 2 [(0, .ref (ad a0)), (1, .int v1)] := hl
  unfold wu_Ck_label at h
  refine lv_aload_n G.1 G.2.1 d_Ck_label_0 rfl (lv_at hl 0 rfl) ?_
  refine ugf (v := .int (sV σ a0 12)) G hP h_a0 iCk rfl 12 (by decide) rfl q663 rfl rfl d_Ck_label_1 ?_
  refine lv_bipush (v := 40) G.1 G.2.1 d_Ck_label_4 (by decide) ?_
  have J_35 : ∀ (s_j35 : St) (z0j35 : Int32) (H : Heap) (locs : List Loc), wj_Ck_label_35 y Post a0 s_j35 z0j35 → va_P D CL (ws g ad y s_j35) H → va_D A (ws g ad y s_j35) → va_S A s.heap H locs → ∀ ls, lv_has ls 2 [] → W p l e ru_Ck_label s m args below meth c H locs 0 0 Q (F0 m 35 ls [.int z0j35]) := by
    intro s_j35 z0j35 H locs h hP hD hS ls hl
    unfold wj_Ck_label_35 at h
    exact hret _ _ _ _ _ _ _ ls h hP hD hS (Nat.le_refl _) (Nat.le_refl _) d_Ck_label_35
  refine lv_icmp_ne (tgt := 30) G.1 G.2.1 d_Ck_label_6 (by decide) (fun c6 => ?_) (fun c6 => ?_)
  · skip
    have h := h.1 c6
    refine lv_aload_n G.1 G.2.1 d_Ck_label_30 rfl (lv_at hl 0 rfl) ?_
    refine lv_iconst (v := 1) G.1 G.2.1 d_Ck_label_31 (by decide) ?_
    refine ucVi (As := [.int 1]) (rest := []) G hP hD hS (cu_Ck_operand l D g ad y _ σ a0 1 H.size h_a0 h) w9_Ck_operand q1607 ⟨Nat.le_of_ble_eq_true rfl, Nat.le_of_ble_eq_true rfl⟩ rfl rfl h_a0 (q := (RCk, TCk, 22)) rfl rfl hl.1 rfl (Nat.le_of_ble_eq_true rfl) rfl ⟨Nat.le_refl _, Nat.le_refl _⟩ d_Ck_label_32 (fun r_1 s_2 H locs h hP hD hS => ?_)
    exact J_35 s_2 r_1 H locs h hP hD hS ls (lv_sub hl [] rfl)
  · skip
    have h := h.2 c6
    refine lv_aload_n G.1 G.2.1 d_Ck_label_9 rfl (lv_at hl 0 rfl) ?_
    obtain ⟨b_3, e_4, c_5, h⟩ := h
    refine ugf (v := .ref (ad b_3)) G hP h_a0 iCk rfl 3 (by decide) rfl q654 rfl (by show va_rf ((sO σ a0 3).map ad) = _; rw [e_4]; rfl) d_Ck_label_10 ?_
    refine ugf (v := .ref (ad (lk b_3 12))) G hP c_5 iWd rfl 12 (by decide) rfl q854 rfl rfl d_Ck_label_13 ?_
    refine ugf (v := .ref (yP y (lk b_3 12) 0)) G hP (lk_9_12 c_5) iIn rfl 0 (by decide) rfl q380 rfl rfl d_Ck_label_16 ?_
    refine lv_aload_n G.1 G.2.1 d_Ck_label_19 rfl (lv_at hl 0 rfl) ?_
    refine lv_iconst (v := 2) G.1 G.2.1 d_Ck_label_20 (by decide) ?_
    refine ucVi (As := [.int 2]) (rest := [.ref (yP y (lk b_3 12) 0)]) G hP hD hS (cu_Ck_operand l D g ad y _ σ a0 2 H.size h_a0 h) w9_Ck_operand q1607 ⟨Nat.le_of_ble_eq_true rfl, Nat.le_of_ble_eq_true rfl⟩ rfl rfl h_a0 (q := (RCk, TCk, 22)) rfl rfl hl.1 rfl (Nat.le_of_ble_eq_true rfl) rfl ⟨Nat.le_refl _, Nat.le_refl _⟩ d_Ck_label_21 (fun r_6 s_7 H locs h hP hD hS => ?_)
    refine W.eq (g2 := F0 m 24 ls [.int r_6, .ref (yP y (lk b_3 12) 0)]) rfl ?_
    refine lv_iload_n G.1 G.2.1 d_Ck_label_24 rfl (lv_at hl 1 rfl) ?_
    refine lv_iadd G.1 G.2.1 d_Ck_label_25 ?_
    refine uiald G hP (kdp (lk_9_12 c_5) rfl) (typ (lk_9_12 c_5) rfl) h d_Ck_label_26 (fun x_8 h => ?_)
    refine lv_goto (tgt := 35) G.1 G.2.1 d_Ck_label_27 (by decide) ?_
    exact J_35 s_7 x_8 H locs h hP hD hS ls (lv_sub hl [] rfl)
