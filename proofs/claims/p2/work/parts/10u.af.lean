theorem q844 : Cond.fieldLink "ClassWorks$Finder" 172 "ClassWorks$World" "codes" "LClassWorks$Ints;" ∈ lw_ok := lw_okmem (List.mem_of_getElem? (i := 844) (by decide +kernel)) rfl
theorem q1861 : Cond.methodLink "ClassWorks$Finder" 195 y_Fi_seekField ∈ lw_ok := lw_okmem (List.mem_of_getElem? (i := 1861) (by decide +kernel)) rfl
theorem q1864 : Cond.code y_Fi_seekField b_Fi_seekField 7 (some (.boolean)) ∈ lw_ok := lw_okmem (List.mem_of_getElem? (i := 1864) (by decide +kernel)) rfl
theorem q1863 : Cond.instanceMethod y_Fi_seekField ∈ lw_ok := lw_okmem (List.mem_of_getElem? (i := 1863) (by decide +kernel)) rfl
theorem q87 : Cond.selects y_Fi_seekField.cls y_Fi_seekField y_Fi_seekField ∈ lw_ok := lw_okmem (List.mem_of_getElem? (i := 87) (by decide +kernel)) rfl
theorem w9_Fi_seekField : CWv y_Fi_seekField b_Fi_seekField 7 (some (.boolean)) 3 ∧ Cond.instanceMethod y_Fi_seekField ∈ lw_ok ∧ Cond.selects y_Fi_seekField.cls y_Fi_seekField y_Fi_seekField ∈ lw_ok := ⟨⟨q1864, q342, by decide +kernel, by decide +kernel, by decide +kernel⟩, q1863, q87⟩
def y_Fi_findField : MethodName := ⟨"ClassWorks$Finder", "findField", "(LClassWorks$World;III)I"⟩
abbrev b_Fi_findField : ByteArray := prog_3_method_14_code
theorem d_Fi_findField_0 : decode b_Fi_findField 0 = .ok (.aload_n 1, 1) := by decide +kernel
theorem d_Fi_findField_1 : decode b_Fi_findField 1 = .ok (.getfield 172, 3) := by decide +kernel
theorem d_Fi_findField_4 : decode b_Fi_findField 4 = .ok (.getfield 163, 3) := by decide +kernel
theorem d_Fi_findField_7 : decode b_Fi_findField 7 = .ok (.astore 5, 2) := by decide +kernel
theorem d_Fi_findField_9 : decode b_Fi_findField 9 = .ok (.aload 5, 2) := by decide +kernel
theorem d_Fi_findField_11 : decode b_Fi_findField 11 = .ok (.iload 4, 2) := by decide +kernel
theorem d_Fi_findField_13 : decode b_Fi_findField 13 = .ok (.iaload, 1) := by decide +kernel
theorem d_Fi_findField_14 : decode b_Fi_findField 14 = .ok (.istore 6, 2) := by decide +kernel
theorem d_Fi_findField_16 : decode b_Fi_findField 16 = .ok (.aload_n 0, 1) := by decide +kernel
theorem d_Fi_findField_17 : decode b_Fi_findField 17 = .ok (.aload_n 1, 1) := by decide +kernel
theorem d_Fi_findField_18 : decode b_Fi_findField 18 = .ok (.aload 5, 2) := by decide +kernel
theorem d_Fi_findField_20 : decode b_Fi_findField 20 = .ok (.iload 4, 2) := by decide +kernel
theorem d_Fi_findField_22 : decode b_Fi_findField 22 = .ok (.iconst 1, 1) := by decide +kernel
theorem d_Fi_findField_23 : decode b_Fi_findField 23 = .ok (.iadd, 1) := by decide +kernel
theorem d_Fi_findField_24 : decode b_Fi_findField 24 = .ok (.iaload, 1) := by decide +kernel
theorem d_Fi_findField_25 : decode b_Fi_findField 25 = .ok (.invokevirtual 192, 3) := by decide +kernel
theorem d_Fi_findField_28 : decode b_Fi_findField 28 = .ok (.istore 7, 2) := by decide +kernel
theorem d_Fi_findField_30 : decode b_Fi_findField 30 = .ok (.iload 7, 2) := by decide +kernel
theorem d_Fi_findField_32 : decode b_Fi_findField 32 = .ok (.ifCond .eq 6, 3) := by decide +kernel
theorem d_Fi_findField_35 : decode b_Fi_findField 35 = .ok (.iload 7, 2) := by decide +kernel
theorem d_Fi_findField_37 : decode b_Fi_findField 37 = .ok (.ireturn, 1) := by decide +kernel
theorem d_Fi_findField_38 : decode b_Fi_findField 38 = .ok (.aload_n 0, 1) := by decide +kernel
theorem d_Fi_findField_39 : decode b_Fi_findField 39 = .ok (.aload_n 1, 1) := by decide +kernel
theorem d_Fi_findField_40 : decode b_Fi_findField 40 = .ok (.aload 5, 2) := by decide +kernel
theorem d_Fi_findField_42 : decode b_Fi_findField 42 = .ok (.iload 4, 2) := by decide +kernel
theorem d_Fi_findField_44 : decode b_Fi_findField 44 = .ok (.iconst 2, 1) := by decide +kernel
theorem d_Fi_findField_45 : decode b_Fi_findField 45 = .ok (.iadd, 1) := by decide +kernel
theorem d_Fi_findField_46 : decode b_Fi_findField 46 = .ok (.iaload, 1) := by decide +kernel
theorem d_Fi_findField_47 : decode b_Fi_findField 47 = .ok (.aload 5, 2) := by decide +kernel
theorem d_Fi_findField_49 : decode b_Fi_findField 49 = .ok (.iload 4, 2) := by decide +kernel
theorem d_Fi_findField_51 : decode b_Fi_findField 51 = .ok (.iconst 3, 1) := by decide +kernel
theorem d_Fi_findField_52 : decode b_Fi_findField 52 = .ok (.iadd, 1) := by decide +kernel
theorem d_Fi_findField_53 : decode b_Fi_findField 53 = .ok (.iaload, 1) := by decide +kernel
theorem d_Fi_findField_54 : decode b_Fi_findField 54 = .ok (.invokevirtual 195, 3) := by decide +kernel
theorem d_Fi_findField_57 : decode b_Fi_findField 57 = .ok (.ifCond .ne 7, 3) := by decide +kernel
theorem d_Fi_findField_60 : decode b_Fi_findField 60 = .ok (.sipush 5112, 3) := by decide +kernel
theorem d_Fi_findField_63 : decode b_Fi_findField 63 = .ok (.ireturn, 1) := by decide +kernel
theorem d_Fi_findField_64 : decode b_Fi_findField 64 = .ok (.aload_n 1, 1) := by decide +kernel
theorem d_Fi_findField_65 : decode b_Fi_findField 65 = .ok (.aload_n 0, 1) := by decide +kernel
theorem d_Fi_findField_66 : decode b_Fi_findField 66 = .ok (.getfield 9, 3) := by decide +kernel
theorem d_Fi_findField_69 : decode b_Fi_findField 69 = .ok (.aload_n 0, 1) := by decide +kernel
theorem d_Fi_findField_70 : decode b_Fi_findField 70 = .ok (.getfield 15, 3) := by decide +kernel
theorem d_Fi_findField_73 : decode b_Fi_findField 73 = .ok (.iconst 2, 1) := by decide +kernel
theorem d_Fi_findField_74 : decode b_Fi_findField 74 = .ok (.invokevirtual 141, 3) := by decide +kernel
theorem d_Fi_findField_77 : decode b_Fi_findField 77 = .ok (.istore 8, 2) := by decide +kernel
theorem d_Fi_findField_79 : decode b_Fi_findField 79 = .ok (.iload 8, 2) := by decide +kernel
theorem d_Fi_findField_81 : decode b_Fi_findField 81 = .ok (.iconst 4, 1) := by decide +kernel
theorem d_Fi_findField_82 : decode b_Fi_findField 82 = .ok (.iand, 1) := by decide +kernel
theorem d_Fi_findField_83 : decode b_Fi_findField 83 = .ok (.ifCond .eq 23, 3) := by decide +kernel
theorem d_Fi_findField_86 : decode b_Fi_findField 86 = .ok (.aload_n 0, 1) := by decide +kernel
theorem d_Fi_findField_87 : decode b_Fi_findField 87 = .ok (.getfield 9, 3) := by decide +kernel
theorem d_Fi_findField_90 : decode b_Fi_findField 90 = .ok (.iload_n 2, 1) := by decide +kernel
theorem d_Fi_findField_91 : decode b_Fi_findField 91 = .ok (.if_icmp .eq 15, 3) := by decide +kernel
theorem d_Fi_findField_94 : decode b_Fi_findField 94 = .ok (.aload_n 1, 1) := by decide +kernel
theorem d_Fi_findField_95 : decode b_Fi_findField 95 = .ok (.iconst 5, 1) := by decide +kernel
theorem d_Fi_findField_96 : decode b_Fi_findField 96 = .ok (.invokevirtual 65, 3) := by decide +kernel
theorem d_Fi_findField_99 : decode b_Fi_findField 99 = .ok (.ifCond .eq 7, 3) := by decide +kernel
theorem d_Fi_findField_102 : decode b_Fi_findField 102 = .ok (.sipush 5314, 3) := by decide +kernel
theorem d_Fi_findField_105 : decode b_Fi_findField 105 = .ok (.ireturn, 1) := by decide +kernel
theorem d_Fi_findField_106 : decode b_Fi_findField 106 = .ok (.iload 6, 2) := by decide +kernel
theorem d_Fi_findField_108 : decode b_Fi_findField 108 = .ok (.bipush 46, 2) := by decide +kernel
theorem d_Fi_findField_110 : decode b_Fi_findField 110 = .ok (.if_icmp .eq 10, 3) := by decide +kernel
theorem d_Fi_findField_113 : decode b_Fi_findField 113 = .ok (.iload 6, 2) := by decide +kernel
theorem d_Fi_findField_115 : decode b_Fi_findField 115 = .ok (.bipush 47, 2) := by decide +kernel
theorem d_Fi_findField_117 : decode b_Fi_findField 117 = .ok (.if_icmp .ne 7, 3) := by decide +kernel
theorem d_Fi_findField_120 : decode b_Fi_findField 120 = .ok (.iconst 1, 1) := by decide +kernel
theorem d_Fi_findField_121 : decode b_Fi_findField 121 = .ok (.goto 4, 3) := by decide +kernel
theorem d_Fi_findField_124 : decode b_Fi_findField 124 = .ok (.iconst 0, 1) := by decide +kernel
theorem d_Fi_findField_125 : decode b_Fi_findField 125 = .ok (.istore 9, 2) := by decide +kernel
theorem d_Fi_findField_127 : decode b_Fi_findField 127 = .ok (.iload 9, 2) := by decide +kernel
theorem d_Fi_findField_129 : decode b_Fi_findField 129 = .ok (.ifCond .eq 24, 3) := by decide +kernel
theorem d_Fi_findField_132 : decode b_Fi_findField 132 = .ok (.iload 8, 2) := by decide +kernel
theorem d_Fi_findField_134 : decode b_Fi_findField 134 = .ok (.iconst 1, 1) := by decide +kernel
theorem d_Fi_findField_135 : decode b_Fi_findField 135 = .ok (.iand, 1) := by decide +kernel
theorem d_Fi_findField_136 : decode b_Fi_findField 136 = .ok (.ifCond .ne 24, 3) := by decide +kernel
theorem d_Fi_findField_139 : decode b_Fi_findField 139 = .ok (.aload_n 1, 1) := by decide +kernel
theorem d_Fi_findField_140 : decode b_Fi_findField 140 = .ok (.aload_n 0, 1) := by decide +kernel
theorem d_Fi_findField_141 : decode b_Fi_findField 141 = .ok (.getfield 9, 3) := by decide +kernel
theorem d_Fi_findField_144 : decode b_Fi_findField 144 = .ok (.invokevirtual 97, 3) := by decide +kernel
theorem d_Fi_findField_147 : decode b_Fi_findField 147 = .ok (.ifCond .eq 17, 3) := by decide +kernel
theorem d_Fi_findField_150 : decode b_Fi_findField 150 = .ok (.goto 10, 3) := by decide +kernel
theorem d_Fi_findField_153 : decode b_Fi_findField 153 = .ok (.iload 8, 2) := by decide +kernel
theorem d_Fi_findField_155 : decode b_Fi_findField 155 = .ok (.iconst 1, 1) := by decide +kernel
theorem d_Fi_findField_156 : decode b_Fi_findField 156 = .ok (.iand, 1) := by decide +kernel
theorem d_Fi_findField_157 : decode b_Fi_findField 157 = .ok (.ifCond .ne 7, 3) := by decide +kernel
theorem d_Fi_findField_160 : decode b_Fi_findField 160 = .ok (.sipush 5515, 3) := by decide +kernel
theorem d_Fi_findField_163 : decode b_Fi_findField 163 = .ok (.ireturn, 1) := by decide +kernel
theorem d_Fi_findField_164 : decode b_Fi_findField 164 = .ok (.iload 6, 2) := by decide +kernel
theorem d_Fi_findField_166 : decode b_Fi_findField 166 = .ok (.bipush 47, 2) := by decide +kernel
theorem d_Fi_findField_168 : decode b_Fi_findField 168 = .ok (.if_icmp .eq 10, 3) := by decide +kernel
theorem d_Fi_findField_171 : decode b_Fi_findField 171 = .ok (.iload 6, 2) := by decide +kernel
theorem d_Fi_findField_173 : decode b_Fi_findField 173 = .ok (.bipush 49, 2) := by decide +kernel
theorem d_Fi_findField_175 : decode b_Fi_findField 175 = .ok (.if_icmp .ne 7, 3) := by decide +kernel
theorem d_Fi_findField_178 : decode b_Fi_findField 178 = .ok (.iconst 1, 1) := by decide +kernel
theorem d_Fi_findField_179 : decode b_Fi_findField 179 = .ok (.goto 4, 3) := by decide +kernel
theorem d_Fi_findField_182 : decode b_Fi_findField 182 = .ok (.iconst 0, 1) := by decide +kernel
theorem d_Fi_findField_183 : decode b_Fi_findField 183 = .ok (.istore 10, 2) := by decide +kernel
theorem d_Fi_findField_185 : decode b_Fi_findField 185 = .ok (.aload_n 0, 1) := by decide +kernel
theorem d_Fi_findField_186 : decode b_Fi_findField 186 = .ok (.getfield 43, 3) := by decide +kernel
theorem d_Fi_findField_189 : decode b_Fi_findField 189 = .ok (.aload_n 1, 1) := by decide +kernel
theorem d_Fi_findField_190 : decode b_Fi_findField 190 = .ok (.iload_n 2, 1) := by decide +kernel
theorem d_Fi_findField_191 : decode b_Fi_findField 191 = .ok (.iload_n 3, 1) := by decide +kernel
theorem d_Fi_findField_192 : decode b_Fi_findField 192 = .ok (.iconst 0, 1) := by decide +kernel
theorem d_Fi_findField_193 : decode b_Fi_findField 193 = .ok (.invokevirtual 100, 3) := by decide +kernel
theorem d_Fi_findField_196 : decode b_Fi_findField 196 = .ok (.invokevirtual 104, 3) := by decide +kernel
theorem d_Fi_findField_199 : decode b_Fi_findField 199 = .ok (.istore 11, 2) := by decide +kernel
theorem d_Fi_findField_201 : decode b_Fi_findField 201 = .ok (.aload_n 0, 1) := by decide +kernel
theorem d_Fi_findField_202 : decode b_Fi_findField 202 = .ok (.getfield 9, 3) := by decide +kernel
theorem d_Fi_findField_205 : decode b_Fi_findField 205 = .ok (.iload_n 2, 1) := by decide +kernel
theorem d_Fi_findField_206 : decode b_Fi_findField 206 = .ok (.if_icmp .ne 24, 3) := by decide +kernel
theorem d_Fi_findField_209 : decode b_Fi_findField 209 = .ok (.iload 11, 2) := by decide +kernel
theorem d_Fi_findField_211 : decode b_Fi_findField 211 = .ok (.iload 9, 2) := by decide +kernel
theorem d_Fi_findField_213 : decode b_Fi_findField 213 = .ok (.ifCond .eq 8, 3) := by decide +kernel
theorem d_Fi_findField_216 : decode b_Fi_findField 216 = .ok (.bipush 7, 2) := by decide +kernel
theorem d_Fi_findField_218 : decode b_Fi_findField 218 = .ok (.goto 5, 3) := by decide +kernel
theorem d_Fi_findField_221 : decode b_Fi_findField 221 = .ok (.bipush 8, 2) := by decide +kernel
theorem d_Fi_findField_223 : decode b_Fi_findField 223 = .ok (.if_icmp .ne 7, 3) := by decide +kernel
theorem d_Fi_findField_226 : decode b_Fi_findField 226 = .ok (.iconst 1, 1) := by decide +kernel
theorem d_Fi_findField_227 : decode b_Fi_findField 227 = .ok (.goto 4, 3) := by decide +kernel
theorem d_Fi_findField_230 : decode b_Fi_findField 230 = .ok (.iconst 0, 1) := by decide +kernel
theorem d_Fi_findField_231 : decode b_Fi_findField 231 = .ok (.istore 12, 2) := by decide +kernel
theorem d_Fi_findField_233 : decode b_Fi_findField 233 = .ok (.iload 10, 2) := by decide +kernel
theorem d_Fi_findField_235 : decode b_Fi_findField 235 = .ok (.ifCond .eq 30, 3) := by decide +kernel
theorem d_Fi_findField_238 : decode b_Fi_findField 238 = .ok (.iload 8, 2) := by decide +kernel
theorem d_Fi_findField_240 : decode b_Fi_findField 240 = .ok (.iconst 2, 1) := by decide +kernel
theorem d_Fi_findField_241 : decode b_Fi_findField 241 = .ok (.iand, 1) := by decide +kernel
theorem d_Fi_findField_242 : decode b_Fi_findField 242 = .ok (.ifCond .eq 23, 3) := by decide +kernel
theorem d_Fi_findField_245 : decode b_Fi_findField 245 = .ok (.iload 12, 2) := by decide +kernel
theorem d_Fi_findField_247 : decode b_Fi_findField 247 = .ok (.ifCond .ne 18, 3) := by decide +kernel
theorem d_Fi_findField_250 : decode b_Fi_findField 250 = .ok (.aload_n 1, 1) := by decide +kernel
theorem d_Fi_findField_251 : decode b_Fi_findField 251 = .ok (.bipush 6, 2) := by decide +kernel
theorem d_Fi_findField_253 : decode b_Fi_findField 253 = .ok (.invokevirtual 65, 3) := by decide +kernel
theorem d_Fi_findField_256 : decode b_Fi_findField 256 = .ok (.ifCond .eq 9, 3) := by decide +kernel
theorem d_Fi_findField_259 : decode b_Fi_findField 259 = .ok (.sipush 5414, 3) := by decide +kernel
theorem d_Fi_findField_262 : decode b_Fi_findField 262 = .ok (.goto 4, 3) := by decide +kernel
theorem d_Fi_findField_265 : decode b_Fi_findField 265 = .ok (.iconst 0, 1) := by decide +kernel
theorem d_Fi_findField_266 : decode b_Fi_findField 266 = .ok (.ireturn, 1) := by decide +kernel
abbrev ru_Fi_findField : Room := { frames := 2, cells := 0, slots := 0, locals := 53 }
def wj_Fi_findField_266 (y : Ly) (Post : St → Int32 → Prop) (a0 : Nat) (a1 : Nat) (s_j266 : St) (z0j266 : Int32) : Prop := Post s_j266 z0j266
def wj_Fi_findField_265 (y : Ly) (Post : St → Int32 → Prop) (a0 : Nat) (a1 : Nat) (s_j265 : St) : Prop := wj_Fi_findField_266 y Post a0 a1 s_j265 0
def wj_Fi_findField_231 (y : Ly) (Post : St → Int32 → Prop) (a0 : Nat) (a1 : Nat) (s_j231 : St) (x8j231 : Int32) (x10j231 : Int32) (z0j231 : Int32) : Prop := ((x10j231 = 0 → wj_Fi_findField_265 y Post a0 a1 s_j231) ∧ (¬ (x10j231 = 0) → (((x8j231 &&& 2) = 0 → wj_Fi_findField_265 y Post a0 a1 s_j231) ∧ (¬ ((x8j231 &&& 2) = 0) → ((¬ z0j231 = 0 → wj_Fi_findField_265 y Post a0 a1 s_j231) ∧ (z0j231 = 0 → wu_Wd_asks y (fun (s_16 : St) (r_15 : Int32) => ((r_15 = 0 → wj_Fi_findField_265 y Post a0 a1 s_16) ∧ (¬ (r_15 = 0) → wj_Fi_findField_266 y Post a0 a1 s_16 5414))) s_j231 a1 6))))))
def wj_Fi_findField_230 (y : Ly) (Post : St → Int32 → Prop) (a0 : Nat) (a1 : Nat) (s_j230 : St) (x8j230 : Int32) (x10j230 : Int32) : Prop := wj_Fi_findField_231 y Post a0 a1 s_j230 x8j230 x10j230 0
def wj_Fi_findField_223 (y : Ly) (Post : St → Int32 → Prop) (a0 : Nat) (a1 : Nat) (s_j223 : St) (x8j223 : Int32) (x10j223 : Int32) (z0j223 : Int32) (z1j223 : Int32) : Prop := ((¬ z0j223 = z1j223 → wj_Fi_findField_230 y Post a0 a1 s_j223 x8j223 x10j223) ∧ (z0j223 = z1j223 → wj_Fi_findField_231 y Post a0 a1 s_j223 x8j223 x10j223 1))
def wj_Fi_findField_183 (y : Ly) (Post : St → Int32 → Prop) (a0 : Nat) (a1 : Nat) (s_j183 : St) (x2j183 : Int32) (x3j183 : Int32) (x8j183 : Int32) (x9j183 : Int32) (z0j183 : Int32) : Prop := wu_Wd_method y (fun (s_12 : St) (r_11 : Int32) => wu_Na_nameOf y (fun (s_14 : St) (r_13 : Int32) => ((¬ (sV s_14 a0 0) = x2j183 → wj_Fi_findField_230 y Post a0 a1 s_14 x8j183 z0j183) ∧ ((sV s_14 a0 0) = x2j183 → ((x9j183 = 0 → wj_Fi_findField_223 y Post a0 a1 s_14 x8j183 z0j183 r_13 8) ∧ (¬ (x9j183 = 0) → wj_Fi_findField_223 y Post a0 a1 s_14 x8j183 z0j183 r_13 7))))) s_12 (lk a0 4) r_11) s_j183 a1 x2j183 x3j183 0
def wj_Fi_findField_178 (y : Ly) (Post : St → Int32 → Prop) (a0 : Nat) (a1 : Nat) (s_j178 : St) (x2j178 : Int32) (x3j178 : Int32) (x8j178 : Int32) (x9j178 : Int32) : Prop := wj_Fi_findField_183 y Post a0 a1 s_j178 x2j178 x3j178 x8j178 x9j178 1
def wj_Fi_findField_164 (y : Ly) (Post : St → Int32 → Prop) (a0 : Nat) (a1 : Nat) (s_j164 : St) (x2j164 : Int32) (x3j164 : Int32) (x6j164 : Int32) (x8j164 : Int32) (x9j164 : Int32) : Prop := ((x6j164 = 47 → wj_Fi_findField_178 y Post a0 a1 s_j164 x2j164 x3j164 x8j164 x9j164) ∧ (¬ (x6j164 = 47) → ((¬ x6j164 = 49 → wj_Fi_findField_183 y Post a0 a1 s_j164 x2j164 x3j164 x8j164 x9j164 0) ∧ (x6j164 = 49 → wj_Fi_findField_178 y Post a0 a1 s_j164 x2j164 x3j164 x8j164 x9j164))))
def wj_Fi_findField_160 (y : Ly) (Post : St → Int32 → Prop) (a0 : Nat) (a1 : Nat) (s_j160 : St) : Prop := Post s_j160 5515
def wj_Fi_findField_125 (y : Ly) (Post : St → Int32 → Prop) (a0 : Nat) (a1 : Nat) (s_j125 : St) (x2j125 : Int32) (x3j125 : Int32) (x6j125 : Int32) (x8j125 : Int32) (z0j125 : Int32) : Prop := ((z0j125 = 0 → ((¬ (x8j125 &&& 1) = 0 → wj_Fi_findField_164 y Post a0 a1 s_j125 x2j125 x3j125 x6j125 x8j125 z0j125) ∧ ((x8j125 &&& 1) = 0 → wj_Fi_findField_160 y Post a0 a1 s_j125))) ∧ (¬ (z0j125 = 0) → ((¬ (x8j125 &&& 1) = 0 → wj_Fi_findField_160 y Post a0 a1 s_j125) ∧ ((x8j125 &&& 1) = 0 → wu_Wd_isFace y (fun (s_18 : St) (r_17 : Int32) => ((r_17 = 0 → wj_Fi_findField_164 y Post a0 a1 s_18 x2j125 x3j125 x6j125 x8j125 z0j125) ∧ (¬ (r_17 = 0) → wj_Fi_findField_160 y Post a0 a1 s_18))) s_j125 a1 (sV s_j125 a0 0)))))
def wj_Fi_findField_120 (y : Ly) (Post : St → Int32 → Prop) (a0 : Nat) (a1 : Nat) (s_j120 : St) (x2j120 : Int32) (x3j120 : Int32) (x6j120 : Int32) (x8j120 : Int32) : Prop := wj_Fi_findField_125 y Post a0 a1 s_j120 x2j120 x3j120 x6j120 x8j120 1
def wj_Fi_findField_106 (y : Ly) (Post : St → Int32 → Prop) (a0 : Nat) (a1 : Nat) (s_j106 : St) (x2j106 : Int32) (x3j106 : Int32) (x6j106 : Int32) (x8j106 : Int32) : Prop := ((x6j106 = 46 → wj_Fi_findField_120 y Post a0 a1 s_j106 x2j106 x3j106 x6j106 x8j106) ∧ (¬ (x6j106 = 46) → ((¬ x6j106 = 47 → wj_Fi_findField_125 y Post a0 a1 s_j106 x2j106 x3j106 x6j106 x8j106 0) ∧ (x6j106 = 47 → wj_Fi_findField_120 y Post a0 a1 s_j106 x2j106 x3j106 x6j106 x8j106))))
def wu_Fi_findField (y : Ly) (Post : St → Int32 → Prop) (σ : St) (a0 : Nat) (a1 : Nat) (v2 : Int32) (v3 : Int32) (v4 : Int32) : Prop := xA y σ (lk a1 10) 0 v4 (fun x_1 : Int32 => xA y σ (lk a1 10) 0 (v4 + 1) (fun x_2 : Int32 => wu_Fi_nameClass y (fun (s_4 : St) (r_3 : Int32) => ((r_3 = 0 → xA y s_4 (lk a1 10) 0 (v4 + 2) (fun x_5 : Int32 => xA y s_4 (lk a1 10) 0 (v4 + 3) (fun x_6 : Int32 => wu_Fi_seekField y (fun (s_8 : St) (r_7 : Int32) => ((¬ r_7 = 0 → wu_Wd_field y (fun (s_10 : St) (r_9 : Int32) => (((r_9 &&& 4) = 0 → wj_Fi_findField_106 y Post a0 a1 s_10 v2 v3 x_1 r_9) ∧ (¬ ((r_9 &&& 4) = 0) → (((sV s_10 a0 0) = v2 → wj_Fi_findField_106 y Post a0 a1 s_10 v2 v3 x_1 r_9) ∧ (¬ ((sV s_10 a0 0) = v2) → wu_Wd_asks y (fun (s_20 : St) (r_19 : Int32) => ((r_19 = 0 → wj_Fi_findField_106 y Post a0 a1 s_20 v2 v3 x_1 r_9) ∧ (¬ (r_19 = 0) → Post s_20 5314))) s_10 a1 5))))) s_8 a1 (sV s_8 a0 0) (sV s_8 a0 1) 2) ∧ (r_7 = 0 → Post s_8 5112))) s_4 a0 a1 x_5 x_6))) ∧ (¬ (r_3 = 0) → Post s_4 r_3))) σ a0 a1 x_2))
set_option maxHeartbeats 4000000 in
set_option maxRecDepth 100000 in
theorem cu_Fi_findField (l : Launch) (D : va_G) (g : Nat → ClassId) (ad : Nat → Nat) (y : Ly) (Post : St → Int32 → Prop) (σ : St) (a0 : Nat) (a1 : Nat) (v2 : Int32) (v3 : Int32) (v4 : Int32) (sz : Nat) (h_a0 : cl a0 = 1) (h_a1 : cl a1 = 9) (h : wu_Fi_findField y Post σ a0 a1 v2 v3 v4) : Met l y_Fi_findField (mw y_Fi_findField b_Fi_findField 13 (some .int)) ru_Fi_findField (PC g D [] [.ref (ad a0), .ref (ad a1), .int v2, .int v3, .int v4] sz (ws g ad y σ)) (va_Qi (fun (r : Int32) (u : St) => Post u r) (QW D (va_A (ws g ad y σ) sz) (fun u => ws g ad y u)) (va_A (ws g ad y σ) sz)) 0 0 (va_A (ws g ad y σ) sz) := by
  refine ofI (by decide +kernel) (Nat.le_of_ble_eq_true rfl) ?_
  intro p e s m args below meth c A Q ls H locs G hsz hP hD hS hl hret
  subst hsz
  have hl : lv_has ls 13 [(0, .ref (ad a0)), (1, .ref (ad a1)), (2, .int v2), (3, .int v3), (4, .int v4)] := hl
  unfold wu_Fi_findField at h
  refine lv_aload_n G.1 G.2.1 d_Fi_findField_0 rfl (lv_at hl 1 rfl) ?_
  refine ugf (v := .ref (ad (lk a1 10))) G hP h_a1 iWd rfl 10 (by decide) rfl q844 rfl rfl d_Fi_findField_1 ?_
  refine ugf (v := .ref (yP y (lk a1 10) 0)) G hP (lk_9_10 h_a1) iIn rfl 0 (by decide) rfl q383 rfl rfl d_Fi_findField_4 ?_
  refine lv_astore (lv' := [(5, .ref (yP y (lk a1 10) 0)), (0, .ref (ad a0)), (1, .ref (ad a1)), (2, .int v2), (3, .int v3), (4, .int v4)]) G.1 G.2.1 d_Fi_findField_7 hl (by decide) rfl (fun ls hl => ?_)
  refine lv_aload G.1 G.2.1 d_Fi_findField_9 (lv_at hl 0 rfl) ?_
  refine lv_iload G.1 G.2.1 d_Fi_findField_11 (lv_at hl 5 rfl) ?_
  refine uiald G hP (kdp (lk_9_10 h_a1) rfl) (typ (lk_9_10 h_a1) rfl) h d_Fi_findField_13 (fun x_1 h => ?_)
  refine lv_istore (lv' := [(6, .int x_1), (5, .ref (yP y (lk a1 10) 0)), (0, .ref (ad a0)), (1, .ref (ad a1)), (2, .int v2), (3, .int v3), (4, .int v4)]) G.1 G.2.1 d_Fi_findField_14 hl (by decide) rfl (fun ls hl => ?_)
  refine lv_aload_n G.1 G.2.1 d_Fi_findField_16 rfl (lv_at hl 2 rfl) ?_
  refine lv_aload_n G.1 G.2.1 d_Fi_findField_17 rfl (lv_at hl 3 rfl) ?_
  refine lv_aload G.1 G.2.1 d_Fi_findField_18 (lv_at hl 1 rfl) ?_
  refine W.eq (g2 := F0 m 20 ls [.ref (yP y (lk a1 10) 0), .ref (ad a1), .ref (ad a0)]) rfl ?_
  refine lv_iload G.1 G.2.1 d_Fi_findField_20 (lv_at hl 6 rfl) ?_
  refine lv_iconst (v := 1) G.1 G.2.1 d_Fi_findField_22 (by decide) ?_
  refine lv_iadd G.1 G.2.1 d_Fi_findField_23 ?_
  refine uiald G hP (kdp (lk_9_10 h_a1) rfl) (typ (lk_9_10 h_a1) rfl) h d_Fi_findField_24 (fun x_2 h => ?_)
  refine ucVi (As := [.ref (ad a1), .int x_2]) (rest := []) G hP hD hS (cu_Fi_nameClass l D g ad y _ σ a0 a1 x_2 H.size h_a0 h_a1 h) w9_Fi_nameClass q1820 ⟨Nat.le_of_ble_eq_true rfl, Nat.le_of_ble_eq_true rfl⟩ rfl rfl h_a0 (q := (RFi, TFi, 10)) rfl rfl hl.1 rfl (Nat.le_of_ble_eq_true rfl) rfl ⟨Nat.le_refl _, Nat.le_refl _⟩ d_Fi_findField_25 (fun r_3 s_4 H locs h hP hD hS => ?_)
  refine lv_istore (lv' := [(7, .int r_3), (6, .int x_1), (5, .ref (yP y (lk a1 10) 0)), (0, .ref (ad a0)), (1, .ref (ad a1)), (2, .int v2), (3, .int v3), (4, .int v4)]) G.1 G.2.1 d_Fi_findField_28 hl (by decide) rfl (fun ls hl => ?_)
  refine lv_iload G.1 G.2.1 d_Fi_findField_30 (lv_at hl 0 rfl) ?_
  refine lv_if_eq (tgt := 38) G.1 G.2.1 d_Fi_findField_32 (by decide) (fun c32 => ?_) (fun c32 => ?_)
  · skip
    have h := h.1 c32
    refine lv_aload_n G.1 G.2.1 d_Fi_findField_38 rfl (lv_at hl 3 rfl) ?_
    refine lv_aload_n G.1 G.2.1 d_Fi_findField_39 rfl (lv_at hl 4 rfl) ?_
    refine lv_aload G.1 G.2.1 d_Fi_findField_40 (lv_at hl 2 rfl) ?_
    refine lv_iload G.1 G.2.1 d_Fi_findField_42 (lv_at hl 7 rfl) ?_
    refine W.eq (g2 := F0 m 44 ls [.int v4, .ref (yP y (lk a1 10) 0), .ref (ad a1), .ref (ad a0)]) rfl ?_
    refine lv_iconst (v := 2) G.1 G.2.1 d_Fi_findField_44 (by decide) ?_
    refine lv_iadd G.1 G.2.1 d_Fi_findField_45 ?_
    refine uiald G hP (kdp (lk_9_10 h_a1) rfl) (typ (lk_9_10 h_a1) rfl) h d_Fi_findField_46 (fun x_5 h => ?_)
    refine lv_aload G.1 G.2.1 d_Fi_findField_47 (lv_at hl 2 rfl) ?_
    refine lv_iload G.1 G.2.1 d_Fi_findField_49 (lv_at hl 7 rfl) ?_
    refine lv_iconst (v := 3) G.1 G.2.1 d_Fi_findField_51 (by decide) ?_
    refine lv_iadd G.1 G.2.1 d_Fi_findField_52 ?_
    refine uiald G hP (kdp (lk_9_10 h_a1) rfl) (typ (lk_9_10 h_a1) rfl) h d_Fi_findField_53 (fun x_6 h => ?_)
    refine ucVi (As := [.ref (ad a1), .int x_5, .int x_6]) (rest := []) G hP hD hS (cu_Fi_seekField l D g ad y _ s_4 a0 a1 x_5 x_6 H.size h_a0 h_a1 h) w9_Fi_seekField q1861 ⟨Nat.le_of_ble_eq_true rfl, Nat.le_of_ble_eq_true rfl⟩ rfl rfl h_a0 (q := (RFi, TFi, 10)) rfl rfl hl.1 rfl (Nat.le_of_ble_eq_true rfl) rfl ⟨Nat.le_refl _, Nat.le_refl _⟩ d_Fi_findField_54 (fun r_7 s_8 H locs h hP hD hS => ?_)
    refine lv_if_ne (tgt := 64) G.1 G.2.1 d_Fi_findField_57 (by decide) (fun c57 => ?_) (fun c57 => ?_)
    · skip
      have h := h.1 c57
      refine lv_aload_n G.1 G.2.1 d_Fi_findField_64 rfl (lv_at hl 4 rfl) ?_
      refine lv_aload_n G.1 G.2.1 d_Fi_findField_65 rfl (lv_at hl 3 rfl) ?_
      refine W.eq (g2 := F0 m 66 ls [.ref (ad a0), .ref (ad a1)]) rfl ?_
      refine ugf (v := .int (sV s_8 a0 0)) G hP h_a0 iFi rfl 0 (by decide) rfl q726 rfl rfl d_Fi_findField_66 ?_
      refine lv_aload_n G.1 G.2.1 d_Fi_findField_69 rfl (lv_at hl 3 rfl) ?_
      refine ugf (v := .int (sV s_8 a0 1)) G hP h_a0 iFi rfl 1 (by decide) rfl q729 rfl rfl d_Fi_findField_70 ?_
      refine lv_iconst (v := 2) G.1 G.2.1 d_Fi_findField_73 (by decide) ?_
      refine ucVi (As := [.int (sV s_8 a0 0), .int (sV s_8 a0 1), .int 2]) (rest := []) G hP hD hS (cu_Wd_field l D g ad y _ s_8 a1 (sV s_8 a0 0) (sV s_8 a0 1) 2 H.size h_a1 h) w9_Wd_field q1708 ⟨Nat.le_of_ble_eq_true rfl, Nat.le_of_ble_eq_true rfl⟩ rfl rfl h_a1 (q := (RWd, TWd, 17)) rfl rfl hl.1 rfl (Nat.le_of_ble_eq_true rfl) rfl ⟨Nat.le_refl _, Nat.le_refl _⟩ d_Fi_findField_74 (fun r_9 s_10 H locs h hP hD hS => ?_)
      refine lv_istore (lv' := [(8, .int r_9), (7, .int r_3), (6, .int x_1), (5, .ref (yP y (lk a1 10) 0)), (0, .ref (ad a0)), (1, .ref (ad a1)), (2, .int v2), (3, .int v3), (4, .int v4)]) G.1 G.2.1 d_Fi_findField_77 hl (by decide) rfl (fun ls hl => ?_)
      refine lv_iload G.1 G.2.1 d_Fi_findField_79 (lv_at hl 0 rfl) ?_
      refine lv_iconst (v := 4) G.1 G.2.1 d_Fi_findField_81 (by decide) ?_
      refine lv_iand G.1 G.2.1 d_Fi_findField_82 ?_
      have J_106 : ∀ (s_j106 : St) (x2j106 : Int32) (x3j106 : Int32) (x6j106 : Int32) (x8j106 : Int32) (H : Heap) (locs : List Loc), wj_Fi_findField_106 y Post a0 a1 s_j106 x2j106 x3j106 x6j106 x8j106 → va_P D CL (ws g ad y s_j106) H → va_D A (ws g ad y s_j106) → va_S A s.heap H locs → ∀ ls, lv_has ls 13 [(0, .ref (ad a0)), (1, .ref (ad a1)), (2, .int x2j106), (3, .int x3j106), (6, .int x6j106), (8, .int x8j106)] → W p l e ru_Fi_findField s m args below meth c H locs 0 0 Q (F0 m 106 ls []) := by
        intro s_j106 x2j106 x3j106 x6j106 x8j106 H locs h hP hD hS ls hl
        unfold wj_Fi_findField_106 at h
        refine lv_iload G.1 G.2.1 d_Fi_findField_106 (lv_at hl 4 rfl) ?_
        refine lv_bipush (v := 46) G.1 G.2.1 d_Fi_findField_108 (by decide) ?_
        have J_125 : ∀ (s_j125 : St) (x2j125 : Int32) (x3j125 : Int32) (x6j125 : Int32) (x8j125 : Int32) (z0j125 : Int32) (H : Heap) (locs : List Loc), wj_Fi_findField_125 y Post a0 a1 s_j125 x2j125 x3j125 x6j125 x8j125 z0j125 → va_P D CL (ws g ad y s_j125) H → va_D A (ws g ad y s_j125) → va_S A s.heap H locs → ∀ ls, lv_has ls 13 [(0, .ref (ad a0)), (1, .ref (ad a1)), (2, .int x2j125), (3, .int x3j125), (6, .int x6j125), (8, .int x8j125)] → W p l e ru_Fi_findField s m args below meth c H locs 0 0 Q (F0 m 125 ls [.int z0j125]) := by
          intro s_j125 x2j125 x3j125 x6j125 x8j125 z0j125 H locs h hP hD hS ls hl
          unfold wj_Fi_findField_125 at h
          refine lv_istore (lv' := [(9, .int z0j125), (0, .ref (ad a0)), (1, .ref (ad a1)), (2, .int x2j125), (3, .int x3j125), (6, .int x6j125), (8, .int x8j125)]) G.1 G.2.1 d_Fi_findField_125 hl (by decide) rfl (fun ls hl => ?_)
          refine lv_iload G.1 G.2.1 d_Fi_findField_127 (lv_at hl 0 rfl) ?_
          have J_164 : ∀ (s_j164 : St) (x2j164 : Int32) (x3j164 : Int32) (x6j164 : Int32) (x8j164 : Int32) (x9j164 : Int32) (H : Heap) (locs : List Loc), wj_Fi_findField_164 y Post a0 a1 s_j164 x2j164 x3j164 x6j164 x8j164 x9j164 → va_P D CL (ws g ad y s_j164) H → va_D A (ws g ad y s_j164) → va_S A s.heap H locs → ∀ ls, lv_has ls 13 [(0, .ref (ad a0)), (1, .ref (ad a1)), (2, .int x2j164), (3, .int x3j164), (6, .int x6j164), (8, .int x8j164), (9, .int x9j164)] → W p l e ru_Fi_findField s m args below meth c H locs 0 0 Q (F0 m 164 ls []) := by
            intro s_j164 x2j164 x3j164 x6j164 x8j164 x9j164 H locs h hP hD hS ls hl
            unfold wj_Fi_findField_164 at h
            refine lv_iload G.1 G.2.1 d_Fi_findField_164 (lv_at hl 4 rfl) ?_
            refine lv_bipush (v := 47) G.1 G.2.1 d_Fi_findField_166 (by decide) ?_
            have J_183 : ∀ (s_j183 : St) (x2j183 : Int32) (x3j183 : Int32) (x8j183 : Int32) (x9j183 : Int32) (z0j183 : Int32) (H : Heap) (locs : List Loc), wj_Fi_findField_183 y Post a0 a1 s_j183 x2j183 x3j183 x8j183 x9j183 z0j183 → va_P D CL (ws g ad y s_j183) H → va_D A (ws g ad y s_j183) → va_S A s.heap H locs → ∀ ls, lv_has ls 13 [(0, .ref (ad a0)), (1, .ref (ad a1)), (2, .int x2j183), (3, .int x3j183), (8, .int x8j183), (9, .int x9j183)] → W p l e ru_Fi_findField s m args below meth c H locs 0 0 Q (F0 m 183 ls [.int z0j183]) := by
              intro s_j183 x2j183 x3j183 x8j183 x9j183 z0j183 H locs h hP hD hS ls hl
              unfold wj_Fi_findField_183 at h
              refine lv_istore (lv' := [(10, .int z0j183), (0, .ref (ad a0)), (1, .ref (ad a1)), (2, .int x2j183), (3, .int x3j183), (8, .int x8j183), (9, .int x9j183)]) G.1 G.2.1 d_Fi_findField_183 hl (by decide) rfl (fun ls hl => ?_)
              refine lv_aload_n G.1 G.2.1 d_Fi_findField_185 rfl (lv_at hl 1 rfl) ?_
              refine ugf (v := .ref (ad (lk a0 4))) G hP h_a0 iFi rfl 4 (by decide) rfl q736 rfl rfl d_Fi_findField_186 ?_
              refine lv_aload_n G.1 G.2.1 d_Fi_findField_189 rfl (lv_at hl 2 rfl) ?_
              refine lv_iload_n G.1 G.2.1 d_Fi_findField_190 rfl (lv_at hl 3 rfl) ?_
              refine lv_iload_n G.1 G.2.1 d_Fi_findField_191 rfl (lv_at hl 4 rfl) ?_
              refine lv_iconst (v := 0) G.1 G.2.1 d_Fi_findField_192 (by decide) ?_
              refine ucVi (As := [.int x2j183, .int x3j183, .int 0]) (rest := [.ref (ad (lk a0 4))]) G hP hD hS (cu_Wd_method l D g ad y _ s_j183 a1 x2j183 x3j183 0 H.size h_a1 h) w9_Wd_method q1568 ⟨Nat.le_of_ble_eq_true rfl, Nat.le_of_ble_eq_true rfl⟩ rfl rfl h_a1 (q := (RWd, TWd, 17)) rfl rfl hl.1 rfl (Nat.le_of_ble_eq_true rfl) rfl ⟨Nat.le_refl _, Nat.le_refl _⟩ d_Fi_findField_193 (fun r_11 s_12 H locs h hP hD hS => ?_)
              refine ucVi (As := [.int r_11]) (rest := []) G hP hD hS (cu_Na_nameOf l D g ad y _ s_12 (lk a0 4) r_11 H.size (lk_1_4 h_a0) h) w9_Na_nameOf q1569 ⟨Nat.le_of_ble_eq_true rfl, Nat.le_of_ble_eq_true rfl⟩ rfl rfl (lk_1_4 h_a0) (q := (RNa, TNa, 11)) rfl rfl hl.1 rfl (Nat.le_of_ble_eq_true rfl) rfl ⟨Nat.le_refl _, Nat.le_refl _⟩ d_Fi_findField_196 (fun r_13 s_14 H locs h hP hD hS => ?_)
              refine lv_istore (lv' := [(11, .int r_13), (10, .int z0j183), (0, .ref (ad a0)), (1, .ref (ad a1)), (2, .int x2j183), (3, .int x3j183), (8, .int x8j183), (9, .int x9j183)]) G.1 G.2.1 d_Fi_findField_199 hl (by decide) rfl (fun ls hl => ?_)
              refine lv_aload_n G.1 G.2.1 d_Fi_findField_201 rfl (lv_at hl 2 rfl) ?_
              refine W.eq (g2 := F0 m 202 ls [.ref (ad a0)]) rfl ?_
              refine ugf (v := .int (sV s_14 a0 0)) G hP h_a0 iFi rfl 0 (by decide) rfl q726 rfl rfl d_Fi_findField_202 ?_
              refine lv_iload_n G.1 G.2.1 d_Fi_findField_205 rfl (lv_at hl 4 rfl) ?_
              have J_231 : ∀ (s_j231 : St) (x8j231 : Int32) (x10j231 : Int32) (z0j231 : Int32) (H : Heap) (locs : List Loc), wj_Fi_findField_231 y Post a0 a1 s_j231 x8j231 x10j231 z0j231 → va_P D CL (ws g ad y s_j231) H → va_D A (ws g ad y s_j231) → va_S A s.heap H locs → ∀ ls, lv_has ls 13 [(1, .ref (ad a1)), (8, .int x8j231), (10, .int x10j231)] → W p l e ru_Fi_findField s m args below meth c H locs 0 0 Q (F0 m 231 ls [.int z0j231]) := by
                intro s_j231 x8j231 x10j231 z0j231 H locs h hP hD hS ls hl
                unfold wj_Fi_findField_231 at h
                refine lv_istore (lv' := [(12, .int z0j231), (1, .ref (ad a1)), (8, .int x8j231), (10, .int x10j231)]) G.1 G.2.1 d_Fi_findField_231 hl (by decide) rfl (fun ls hl => ?_)
                refine lv_iload G.1 G.2.1 d_Fi_findField_233 (lv_at hl 3 rfl) ?_
                have J_266 : ∀ (s_j266 : St) (z0j266 : Int32) (H : Heap) (locs : List Loc), wj_Fi_findField_266 y Post a0 a1 s_j266 z0j266 → va_P D CL (ws g ad y s_j266) H → va_D A (ws g ad y s_j266) → va_S A s.heap H locs → ∀ ls, lv_has ls 13 [] → W p l e ru_Fi_findField s m args below meth c H locs 0 0 Q (F0 m 266 ls [.int z0j266]) := by
                  intro s_j266 z0j266 H locs h hP hD hS ls hl
                  unfold wj_Fi_findField_266 at h
                  exact hret _ _ _ _ _ _ _ ls h hP hD hS (Nat.le_refl _) (Nat.le_refl _) d_Fi_findField_266
                have J_265 : ∀ (s_j265 : St) (H : Heap) (locs : List Loc), wj_Fi_findField_265 y Post a0 a1 s_j265 → va_P D CL (ws g ad y s_j265) H → va_D A (ws g ad y s_j265) → va_S A s.heap H locs → ∀ ls, lv_has ls 13 [] → W p l e ru_Fi_findField s m args below meth c H locs 0 0 Q (F0 m 265 ls []) := by
                  intro s_j265 H locs h hP hD hS ls hl
                  unfold wj_Fi_findField_265 at h
                  refine lv_iconst (v := 0) G.1 G.2.1 d_Fi_findField_265 (by decide) ?_
                  exact J_266 s_j265 0 H locs h hP hD hS ls (lv_sub hl [] rfl)
                refine lv_if_eq (tgt := 265) G.1 G.2.1 d_Fi_findField_235 (by decide) (fun c235 => ?_) (fun c235 => ?_)
                · skip
                  have h := h.1 c235
                  exact J_265 s_j231 H locs h hP hD hS ls (lv_sub hl [] rfl)
                · skip
                  have h := h.2 c235
                  refine lv_iload G.1 G.2.1 d_Fi_findField_238 (lv_at hl 2 rfl) ?_
                  refine lv_iconst (v := 2) G.1 G.2.1 d_Fi_findField_240 (by decide) ?_
                  refine lv_iand G.1 G.2.1 d_Fi_findField_241 ?_
                  refine lv_if_eq (tgt := 265) G.1 G.2.1 d_Fi_findField_242 (by decide) (fun c242 => ?_) (fun c242 => ?_)
                  · skip
                    have h := h.1 c242
                    exact J_265 s_j231 H locs h hP hD hS ls (lv_sub hl [] rfl)
                  · skip
                    have h := h.2 c242
                    refine lv_iload G.1 G.2.1 d_Fi_findField_245 (lv_at hl 0 rfl) ?_
                    refine lv_if_ne (tgt := 265) G.1 G.2.1 d_Fi_findField_247 (by decide) (fun c247 => ?_) (fun c247 => ?_)
                    · skip
                      have h := h.1 c247
                      exact J_265 s_j231 H locs h hP hD hS ls (lv_sub hl [] rfl)
                    · skip
                      have h := h.2 c247
                      refine lv_aload_n G.1 G.2.1 d_Fi_findField_250 rfl (lv_at hl 1 rfl) ?_
                      refine lv_bipush (v := 6) G.1 G.2.1 d_Fi_findField_251 (by decide) ?_
                      refine W.eq (g2 := F0 m 253 ls [.int 6, .ref (ad a1)]) rfl ?_
                      refine ucVi (As := [.int 6]) (rest := []) G hP hD hS (cu_Wd_asks l D g ad y _ s_j231 a1 6 H.size h_a1 h) w9_Wd_asks q1556 ⟨Nat.le_of_ble_eq_true rfl, Nat.le_of_ble_eq_true rfl⟩ rfl rfl h_a1 (q := (RWd, TWd, 17)) rfl rfl hl.1 rfl (Nat.le_of_ble_eq_true rfl) rfl ⟨Nat.le_refl _, Nat.le_refl _⟩ d_Fi_findField_253 (fun r_15 s_16 H locs h hP hD hS => ?_)
                      refine lv_if_eq (tgt := 265) G.1 G.2.1 d_Fi_findField_256 (by decide) (fun c256 => ?_) (fun c256 => ?_)
                      · skip
                        have h := h.1 c256
                        exact J_265 s_16 H locs h hP hD hS ls (lv_sub hl [] rfl)
                      · skip
                        have h := h.2 c256
                        refine lv_sipush (v := 5414) G.1 G.2.1 d_Fi_findField_259 (by decide) ?_
                        refine lv_goto (tgt := 266) G.1 G.2.1 d_Fi_findField_262 (by decide) ?_
                        exact J_266 s_16 5414 H locs h hP hD hS ls (lv_sub hl [] rfl)
              have J_230 : ∀ (s_j230 : St) (x8j230 : Int32) (x10j230 : Int32) (H : Heap) (locs : List Loc), wj_Fi_findField_230 y Post a0 a1 s_j230 x8j230 x10j230 → va_P D CL (ws g ad y s_j230) H → va_D A (ws g ad y s_j230) → va_S A s.heap H locs → ∀ ls, lv_has ls 13 [(1, .ref (ad a1)), (8, .int x8j230), (10, .int x10j230)] → W p l e ru_Fi_findField s m args below meth c H locs 0 0 Q (F0 m 230 ls []) := by
                intro s_j230 x8j230 x10j230 H locs h hP hD hS ls hl
                unfold wj_Fi_findField_230 at h
                refine lv_iconst (v := 0) G.1 G.2.1 d_Fi_findField_230 (by decide) ?_
                exact J_231 s_j230 x8j230 x10j230 0 H locs h hP hD hS ls (lv_sub hl [0, 1, 2] rfl)
              refine lv_icmp_ne (tgt := 230) G.1 G.2.1 d_Fi_findField_206 (by decide) (fun c206 => ?_) (fun c206 => ?_)
              · skip
                have h := h.1 c206
                exact J_230 s_14 x8j183 z0j183 H locs h hP hD hS ls (lv_sub hl [3, 6, 1] rfl)
              · skip
                have h := h.2 c206
                refine lv_iload G.1 G.2.1 d_Fi_findField_209 (lv_at hl 0 rfl) ?_
                refine lv_iload G.1 G.2.1 d_Fi_findField_211 (lv_at hl 7 rfl) ?_
                have J_223 : ∀ (s_j223 : St) (x8j223 : Int32) (x10j223 : Int32) (z0j223 : Int32) (z1j223 : Int32) (H : Heap) (locs : List Loc), wj_Fi_findField_223 y Post a0 a1 s_j223 x8j223 x10j223 z0j223 z1j223 → va_P D CL (ws g ad y s_j223) H → va_D A (ws g ad y s_j223) → va_S A s.heap H locs → ∀ ls, lv_has ls 13 [(1, .ref (ad a1)), (8, .int x8j223), (10, .int x10j223)] → W p l e ru_Fi_findField s m args below meth c H locs 0 0 Q (F0 m 223 ls [.int z1j223, .int z0j223]) := by
                  intro s_j223 x8j223 x10j223 z0j223 z1j223 H locs h hP hD hS ls hl
                  unfold wj_Fi_findField_223 at h
                  refine lv_icmp_ne (tgt := 230) G.1 G.2.1 d_Fi_findField_223 (by decide) (fun c223 => ?_) (fun c223 => ?_)
                  · skip
                    have h := h.1 c223
                    exact J_230 s_j223 x8j223 x10j223 H locs h hP hD hS ls (lv_sub hl [0, 1, 2] rfl)
                  · skip
                    have h := h.2 c223
                    refine lv_iconst (v := 1) G.1 G.2.1 d_Fi_findField_226 (by decide) ?_
                    refine lv_goto (tgt := 231) G.1 G.2.1 d_Fi_findField_227 (by decide) ?_
                    exact J_231 s_j223 x8j223 x10j223 1 H locs h hP hD hS ls (lv_sub hl [0, 1, 2] rfl)
                refine lv_if_eq (tgt := 221) G.1 G.2.1 d_Fi_findField_213 (by decide) (fun c213 => ?_) (fun c213 => ?_)
                · skip
                  have h := h.1 c213
                  refine lv_bipush (v := 8) G.1 G.2.1 d_Fi_findField_221 (by decide) ?_
                  exact J_223 s_14 x8j183 z0j183 r_13 8 H locs h hP hD hS ls (lv_sub hl [3, 6, 1] rfl)
                · skip
                  have h := h.2 c213
                  refine lv_bipush (v := 7) G.1 G.2.1 d_Fi_findField_216 (by decide) ?_
                  refine lv_goto (tgt := 223) G.1 G.2.1 d_Fi_findField_218 (by decide) ?_
                  exact J_223 s_14 x8j183 z0j183 r_13 7 H locs h hP hD hS ls (lv_sub hl [3, 6, 1] rfl)
            have J_178 : ∀ (s_j178 : St) (x2j178 : Int32) (x3j178 : Int32) (x8j178 : Int32) (x9j178 : Int32) (H : Heap) (locs : List Loc), wj_Fi_findField_178 y Post a0 a1 s_j178 x2j178 x3j178 x8j178 x9j178 → va_P D CL (ws g ad y s_j178) H → va_D A (ws g ad y s_j178) → va_S A s.heap H locs → ∀ ls, lv_has ls 13 [(0, .ref (ad a0)), (1, .ref (ad a1)), (2, .int x2j178), (3, .int x3j178), (8, .int x8j178), (9, .int x9j178)] → W p l e ru_Fi_findField s m args below meth c H locs 0 0 Q (F0 m 178 ls []) := by
              intro s_j178 x2j178 x3j178 x8j178 x9j178 H locs h hP hD hS ls hl
              unfold wj_Fi_findField_178 at h
              refine lv_iconst (v := 1) G.1 G.2.1 d_Fi_findField_178 (by decide) ?_
              refine lv_goto (tgt := 183) G.1 G.2.1 d_Fi_findField_179 (by decide) ?_
              exact J_183 s_j178 x2j178 x3j178 x8j178 x9j178 1 H locs h hP hD hS ls (lv_sub hl [0, 1, 2, 3, 4, 5] rfl)
            refine lv_icmp_eq (tgt := 178) G.1 G.2.1 d_Fi_findField_168 (by decide) (fun c168 => ?_) (fun c168 => ?_)
            · skip
              have h := h.1 c168
              exact J_178 s_j164 x2j164 x3j164 x8j164 x9j164 H locs h hP hD hS ls (lv_sub hl [0, 1, 2, 3, 5, 6] rfl)
            · skip
              have h := h.2 c168
              refine lv_iload G.1 G.2.1 d_Fi_findField_171 (lv_at hl 4 rfl) ?_
              refine lv_bipush (v := 49) G.1 G.2.1 d_Fi_findField_173 (by decide) ?_
              refine lv_icmp_ne (tgt := 182) G.1 G.2.1 d_Fi_findField_175 (by decide) (fun c175 => ?_) (fun c175 => ?_)
              · skip
                have h := h.1 c175
                refine lv_iconst (v := 0) G.1 G.2.1 d_Fi_findField_182 (by decide) ?_
                exact J_183 s_j164 x2j164 x3j164 x8j164 x9j164 0 H locs h hP hD hS ls (lv_sub hl [0, 1, 2, 3, 5, 6] rfl)
              · skip
                have h := h.2 c175
                exact J_178 s_j164 x2j164 x3j164 x8j164 x9j164 H locs h hP hD hS ls (lv_sub hl [0, 1, 2, 3, 5, 6] rfl)
          have J_160 : ∀ (s_j160 : St) (H : Heap) (locs : List Loc), wj_Fi_findField_160 y Post a0 a1 s_j160 → va_P D CL (ws g ad y s_j160) H → va_D A (ws g ad y s_j160) → va_S A s.heap H locs → ∀ ls, lv_has ls 13 [] → W p l e ru_Fi_findField s m args below meth c H locs 0 0 Q (F0 m 160 ls []) := by
            intro s_j160 H locs h hP hD hS ls hl
            unfold wj_Fi_findField_160 at h
            refine lv_sipush (v := 5515) G.1 G.2.1 d_Fi_findField_160 (by decide) ?_
            exact hret _ _ _ _ _ _ _ ls h hP hD hS (Nat.le_refl _) (Nat.le_refl _) d_Fi_findField_163
          refine lv_if_eq (tgt := 153) G.1 G.2.1 d_Fi_findField_129 (by decide) (fun c129 => ?_) (fun c129 => ?_)
          · skip
            have h := h.1 c129
            refine lv_iload G.1 G.2.1 d_Fi_findField_153 (lv_at hl 6 rfl) ?_
            refine lv_iconst (v := 1) G.1 G.2.1 d_Fi_findField_155 (by decide) ?_
            refine lv_iand G.1 G.2.1 d_Fi_findField_156 ?_
            refine lv_if_ne (tgt := 164) G.1 G.2.1 d_Fi_findField_157 (by decide) (fun c157 => ?_) (fun c157 => ?_)
            · skip
              have h := h.1 c157
              exact J_164 s_j125 x2j125 x3j125 x6j125 x8j125 z0j125 H locs h hP hD hS ls (lv_sub hl [1, 2, 3, 4, 5, 6, 0] rfl)
            · skip
              have h := h.2 c157
              exact J_160 s_j125 H locs h hP hD hS ls (lv_sub hl [] rfl)
          · skip
            have h := h.2 c129
            refine lv_iload G.1 G.2.1 d_Fi_findField_132 (lv_at hl 6 rfl) ?_
            refine lv_iconst (v := 1) G.1 G.2.1 d_Fi_findField_134 (by decide) ?_
            refine lv_iand G.1 G.2.1 d_Fi_findField_135 ?_
            refine lv_if_ne (tgt := 160) G.1 G.2.1 d_Fi_findField_136 (by decide) (fun c136 => ?_) (fun c136 => ?_)
            · skip
              have h := h.1 c136
              exact J_160 s_j125 H locs h hP hD hS ls (lv_sub hl [] rfl)
            · skip
              have h := h.2 c136
              refine lv_aload_n G.1 G.2.1 d_Fi_findField_139 rfl (lv_at hl 2 rfl) ?_
              refine lv_aload_n G.1 G.2.1 d_Fi_findField_140 rfl (lv_at hl 1 rfl) ?_
              refine ugf (v := .int (sV s_j125 a0 0)) G hP h_a0 iFi rfl 0 (by decide) rfl q726 rfl rfl d_Fi_findField_141 ?_
              refine ucVi (As := [.int (sV s_j125 a0 0)]) (rest := []) G hP hD hS (cu_Wd_isFace l D g ad y _ s_j125 a1 (sV s_j125 a0 0) H.size h_a1 h) w9_Wd_isFace q1558 ⟨Nat.le_of_ble_eq_true rfl, Nat.le_of_ble_eq_true rfl⟩ rfl rfl h_a1 (q := (RWd, TWd, 17)) rfl rfl hl.1 rfl (Nat.le_of_ble_eq_true rfl) rfl ⟨Nat.le_refl _, Nat.le_refl _⟩ d_Fi_findField_144 (fun r_17 s_18 H locs h hP hD hS => ?_)
              refine W.eq (g2 := F0 m 147 ls [.int r_17]) rfl ?_
              refine lv_if_eq (tgt := 164) G.1 G.2.1 d_Fi_findField_147 (by decide) (fun c147 => ?_) (fun c147 => ?_)
              · skip
                have h := h.1 c147
                exact J_164 s_18 x2j125 x3j125 x6j125 x8j125 z0j125 H locs h hP hD hS ls (lv_sub hl [1, 2, 3, 4, 5, 6, 0] rfl)
              · skip
                have h := h.2 c147
                refine lv_goto (tgt := 160) G.1 G.2.1 d_Fi_findField_150 (by decide) ?_
                exact J_160 s_18 H locs h hP hD hS ls (lv_sub hl [] rfl)
        have J_120 : ∀ (s_j120 : St) (x2j120 : Int32) (x3j120 : Int32) (x6j120 : Int32) (x8j120 : Int32) (H : Heap) (locs : List Loc), wj_Fi_findField_120 y Post a0 a1 s_j120 x2j120 x3j120 x6j120 x8j120 → va_P D CL (ws g ad y s_j120) H → va_D A (ws g ad y s_j120) → va_S A s.heap H locs → ∀ ls, lv_has ls 13 [(0, .ref (ad a0)), (1, .ref (ad a1)), (2, .int x2j120), (3, .int x3j120), (6, .int x6j120), (8, .int x8j120)] → W p l e ru_Fi_findField s m args below meth c H locs 0 0 Q (F0 m 120 ls []) := by
          intro s_j120 x2j120 x3j120 x6j120 x8j120 H locs h hP hD hS ls hl
          unfold wj_Fi_findField_120 at h
          refine lv_iconst (v := 1) G.1 G.2.1 d_Fi_findField_120 (by decide) ?_
          refine lv_goto (tgt := 125) G.1 G.2.1 d_Fi_findField_121 (by decide) ?_
          exact J_125 s_j120 x2j120 x3j120 x6j120 x8j120 1 H locs h hP hD hS ls (lv_sub hl [0, 1, 2, 3, 4, 5] rfl)
        refine lv_icmp_eq (tgt := 120) G.1 G.2.1 d_Fi_findField_110 (by decide) (fun c110 => ?_) (fun c110 => ?_)
        · skip
          have h := h.1 c110
          exact J_120 s_j106 x2j106 x3j106 x6j106 x8j106 H locs h hP hD hS ls (lv_sub hl [0, 1, 2, 3, 4, 5] rfl)
        · skip
          have h := h.2 c110
          refine lv_iload G.1 G.2.1 d_Fi_findField_113 (lv_at hl 4 rfl) ?_
          refine lv_bipush (v := 47) G.1 G.2.1 d_Fi_findField_115 (by decide) ?_
          refine lv_icmp_ne (tgt := 124) G.1 G.2.1 d_Fi_findField_117 (by decide) (fun c117 => ?_) (fun c117 => ?_)
          · skip
            have h := h.1 c117
            refine lv_iconst (v := 0) G.1 G.2.1 d_Fi_findField_124 (by decide) ?_
            exact J_125 s_j106 x2j106 x3j106 x6j106 x8j106 0 H locs h hP hD hS ls (lv_sub hl [0, 1, 2, 3, 4, 5] rfl)
          · skip
            have h := h.2 c117
            exact J_120 s_j106 x2j106 x3j106 x6j106 x8j106 H locs h hP hD hS ls (lv_sub hl [0, 1, 2, 3, 4, 5] rfl)
      refine lv_if_eq (tgt := 106) G.1 G.2.1 d_Fi_findField_83 (by decide) (fun c83 => ?_) (fun c83 => ?_)
      · skip
        have h := h.1 c83
        exact J_106 s_10 v2 v3 x_1 r_9 H locs h hP hD hS ls (lv_sub hl [4, 5, 6, 7, 2, 0] rfl)
      · skip
        have h := h.2 c83
        refine lv_aload_n G.1 G.2.1 d_Fi_findField_86 rfl (lv_at hl 4 rfl) ?_
        refine ugf (v := .int (sV s_10 a0 0)) G hP h_a0 iFi rfl 0 (by decide) rfl q726 rfl rfl d_Fi_findField_87 ?_
        refine W.eq (g2 := F0 m 90 ls [.int (sV s_10 a0 0)]) rfl ?_
        refine lv_iload_n G.1 G.2.1 d_Fi_findField_90 rfl (lv_at hl 6 rfl) ?_
        refine lv_icmp_eq (tgt := 106) G.1 G.2.1 d_Fi_findField_91 (by decide) (fun c91 => ?_) (fun c91 => ?_)
        · skip
          have h := h.1 c91
          exact J_106 s_10 v2 v3 x_1 r_9 H locs h hP hD hS ls (lv_sub hl [4, 5, 6, 7, 2, 0] rfl)
        · skip
          have h := h.2 c91
          refine lv_aload_n G.1 G.2.1 d_Fi_findField_94 rfl (lv_at hl 5 rfl) ?_
          refine lv_iconst (v := 5) G.1 G.2.1 d_Fi_findField_95 (by decide) ?_
          refine ucVi (As := [.int 5]) (rest := []) G hP hD hS (cu_Wd_asks l D g ad y _ s_10 a1 5 H.size h_a1 h) w9_Wd_asks q1556 ⟨Nat.le_of_ble_eq_true rfl, Nat.le_of_ble_eq_true rfl⟩ rfl rfl h_a1 (q := (RWd, TWd, 17)) rfl rfl hl.1 rfl (Nat.le_of_ble_eq_true rfl) rfl ⟨Nat.le_refl _, Nat.le_refl _⟩ d_Fi_findField_96 (fun r_19 s_20 H locs h hP hD hS => ?_)
          refine lv_if_eq (tgt := 106) G.1 G.2.1 d_Fi_findField_99 (by decide) (fun c99 => ?_) (fun c99 => ?_)
          · skip
            have h := h.1 c99
            exact J_106 s_20 v2 v3 x_1 r_9 H locs h hP hD hS ls (lv_sub hl [4, 5, 6, 7, 2, 0] rfl)
          · skip
            have h := h.2 c99
            refine lv_sipush (v := 5314) G.1 G.2.1 d_Fi_findField_102 (by decide) ?_
            exact hret _ _ _ _ _ _ _ ls h hP hD hS (Nat.le_refl _) (Nat.le_refl _) d_Fi_findField_105
    · skip
      have h := h.2 c57
      refine lv_sipush (v := 5112) G.1 G.2.1 d_Fi_findField_60 (by decide) ?_
      exact hret _ _ _ _ _ _ _ ls h hP hD hS (Nat.le_refl _) (Nat.le_refl _) d_Fi_findField_63
  · skip
    have h := h.2 c32
    refine lv_iload G.1 G.2.1 d_Fi_findField_35 (lv_at hl 0 rfl) ?_
    exact hret _ _ _ _ _ _ _ ls h hP hD hS (Nat.le_refl _) (Nat.le_refl _) d_Fi_findField_37
theorem q1009 : Cond.fieldLink "ClassWorks$Machine" 211 "ClassWorks$Runner" "classOf" "[I" ∈ lw_ok := lw_okmem (List.mem_of_getElem? (i := 1009) (by decide +kernel)) rfl
theorem q1012 : Cond.fieldLink "ClassWorks$Machine" 214 "ClassWorks$Runner" "methodOf" "[I" ∈ lw_ok := lw_okmem (List.mem_of_getElem? (i := 1012) (by decide +kernel)) rfl
theorem q1015 : Cond.fieldLink "ClassWorks$Machine" 217 "ClassWorks$Runner" "at" "[I" ∈ lw_ok := lw_okmem (List.mem_of_getElem? (i := 1015) (by decide +kernel)) rfl
theorem q1837 : Cond.methodLink "ClassWorks$Machine" 220 y_Wd_code ∈ lw_ok := lw_okmem (List.mem_of_getElem? (i := 1837) (by decide +kernel)) rfl
theorem q1840 : Cond.code y_Wd_code b_Wd_code 5 (some .int) ∈ lw_ok := lw_okmem (List.mem_of_getElem? (i := 1840) (by decide +kernel)) rfl
theorem q1838 : Cond.instanceMethod y_Wd_code ∈ lw_ok := lw_okmem (List.mem_of_getElem? (i := 1838) (by decide +kernel)) rfl
theorem q1839 : Cond.selects y_Wd_code.cls y_Wd_code y_Wd_code ∈ lw_ok := lw_okmem (List.mem_of_getElem? (i := 1839) (by decide +kernel)) rfl
theorem w9_Wd_code : CWv y_Wd_code b_Wd_code 5 (some .int) 3 ∧ Cond.instanceMethod y_Wd_code ∈ lw_ok ∧ Cond.selects y_Wd_code.cls y_Wd_code y_Wd_code ∈ lw_ok := ⟨⟨q1840, q345, by decide +kernel, by decide +kernel, by decide +kernel⟩, q1838, q1839⟩
theorem q845 : Cond.fieldLink "ClassWorks$Machine" 224 "ClassWorks$World" "codes" "LClassWorks$Ints;" ∈ lw_ok := lw_okmem (List.mem_of_getElem? (i := 845) (by decide +kernel)) rfl
theorem q385 : Cond.fieldLink "ClassWorks$Machine" 228 "ClassWorks$Ints" "row" "[I" ∈ lw_ok := lw_okmem (List.mem_of_getElem? (i := 385) (by decide +kernel)) rfl
theorem q1841 : Cond.methodLink "ClassWorks$Machine" 233 y_Ru_fromTop ∈ lw_ok := lw_okmem (List.mem_of_getElem? (i := 1841) (by decide +kernel)) rfl
theorem q1844 : Cond.code y_Ru_fromTop b_Ru_fromTop 2 (some (.long)) ∈ lw_ok := lw_okmem (List.mem_of_getElem? (i := 1844) (by decide +kernel)) rfl
theorem q1842 : Cond.instanceMethod y_Ru_fromTop ∈ lw_ok := lw_okmem (List.mem_of_getElem? (i := 1842) (by decide +kernel)) rfl
theorem q1843 : Cond.selects y_Ru_fromTop.cls y_Ru_fromTop y_Ru_fromTop ∈ lw_ok := lw_okmem (List.mem_of_getElem? (i := 1843) (by decide +kernel)) rfl
theorem w9_Ru_fromTop : CWv y_Ru_fromTop b_Ru_fromTop 2 (some (.long)) 1 ∧ Cond.instanceMethod y_Ru_fromTop ∈ lw_ok ∧ Cond.selects y_Ru_fromTop.cls y_Ru_fromTop y_Ru_fromTop ∈ lw_ok := ⟨⟨q1844, q347, by decide +kernel, by decide +kernel, by decide +kernel⟩, q1842, q1843⟩
theorem q1866 : Cond.methodLink "ClassWorks$Machine" 248 y_Wd_number ∈ lw_ok := lw_okmem (List.mem_of_getElem? (i := 1866) (by decide +kernel)) rfl
theorem q1857 : Cond.methodLink "ClassWorks$Machine" 244 y_Fi_findField ∈ lw_ok := lw_okmem (List.mem_of_getElem? (i := 1857) (by decide +kernel)) rfl
theorem q1860 : Cond.code y_Fi_findField b_Fi_findField 13 (some .int) ∈ lw_ok := lw_okmem (List.mem_of_getElem? (i := 1860) (by decide +kernel)) rfl
theorem q1858 : Cond.instanceMethod y_Fi_findField ∈ lw_ok := lw_okmem (List.mem_of_getElem? (i := 1858) (by decide +kernel)) rfl
theorem q1859 : Cond.selects y_Fi_findField.cls y_Fi_findField y_Fi_findField ∈ lw_ok := lw_okmem (List.mem_of_getElem? (i := 1859) (by decide +kernel)) rfl
theorem w9_Fi_findField : CWv y_Fi_findField b_Fi_findField 13 (some .int) 4 ∧ Cond.instanceMethod y_Fi_findField ∈ lw_ok ∧ Cond.selects y_Fi_findField.cls y_Fi_findField y_Fi_findField ∈ lw_ok := ⟨⟨q1860, q342, by decide +kernel, by decide +kernel, by decide +kernel⟩, q1858, q1859⟩
theorem q1853 : Cond.methodLink "ClassWorks$Machine" 241 y_Fi_findNew ∈ lw_ok := lw_okmem (List.mem_of_getElem? (i := 1853) (by decide +kernel)) rfl
theorem q1856 : Cond.code y_Fi_findNew b_Fi_findNew 4 (some .int) ∈ lw_ok := lw_okmem (List.mem_of_getElem? (i := 1856) (by decide +kernel)) rfl
theorem q1854 : Cond.instanceMethod y_Fi_findNew ∈ lw_ok := lw_okmem (List.mem_of_getElem? (i := 1854) (by decide +kernel)) rfl
theorem q1855 : Cond.selects y_Fi_findNew.cls y_Fi_findNew y_Fi_findNew ∈ lw_ok := lw_okmem (List.mem_of_getElem? (i := 1855) (by decide +kernel)) rfl
theorem w9_Fi_findNew : CWv y_Fi_findNew b_Fi_findNew 4 (some .int) 2 ∧ Cond.instanceMethod y_Fi_findNew ∈ lw_ok ∧ Cond.selects y_Fi_findNew.cls y_Fi_findNew y_Fi_findNew ∈ lw_ok := ⟨⟨q1856, q342, by decide +kernel, by decide +kernel, by decide +kernel⟩, q1854, q1855⟩
theorem q1845 : Cond.methodLink "ClassWorks$Machine" 237 y_Hp_lockedByOther ∈ lw_ok := lw_okmem (List.mem_of_getElem? (i := 1845) (by decide +kernel)) rfl
theorem q1848 : Cond.code y_Hp_lockedByOther b_Hp_lockedByOther 4 (some (.boolean)) ∈ lw_ok := lw_okmem (List.mem_of_getElem? (i := 1848) (by decide +kernel)) rfl
theorem q1846 : Cond.instanceMethod y_Hp_lockedByOther ∈ lw_ok := lw_okmem (List.mem_of_getElem? (i := 1846) (by decide +kernel)) rfl
theorem q1847 : Cond.selects y_Hp_lockedByOther.cls y_Hp_lockedByOther y_Hp_lockedByOther ∈ lw_ok := lw_okmem (List.mem_of_getElem? (i := 1847) (by decide +kernel)) rfl
theorem w9_Hp_lockedByOther : CWv y_Hp_lockedByOther b_Hp_lockedByOther 4 (some (.boolean)) 2 ∧ Cond.instanceMethod y_Hp_lockedByOther ∈ lw_ok ∧ Cond.selects y_Hp_lockedByOther.cls y_Hp_lockedByOther y_Hp_lockedByOther ∈ lw_ok := ⟨⟨q1848, q346, by decide +kernel, by decide +kernel, by decide +kernel⟩, q1846, q1847⟩
def y_Ma_planStep : MethodName := ⟨"ClassWorks$Machine", "planStep", "(LClassWorks$Runner;I)I"⟩
abbrev b_Ma_planStep : ByteArray := prog_6_method_14_code
theorem d_Ma_planStep_0 : decode b_Ma_planStep 0 = .ok (.aload_n 1, 1) := by decide +kernel
theorem d_Ma_planStep_1 : decode b_Ma_planStep 1 = .ok (.getfield 158, 3) := by decide +kernel
theorem d_Ma_planStep_4 : decode b_Ma_planStep 4 = .ok (.iconst 1, 1) := by decide +kernel
theorem d_Ma_planStep_5 : decode b_Ma_planStep 5 = .ok (.isub, 1) := by decide +kernel
theorem d_Ma_planStep_6 : decode b_Ma_planStep 6 = .ok (.istore_n 3, 1) := by decide +kernel
theorem d_Ma_planStep_7 : decode b_Ma_planStep 7 = .ok (.aload_n 0, 1) := by decide +kernel
theorem d_Ma_planStep_8 : decode b_Ma_planStep 8 = .ok (.getfield 69, 3) := by decide +kernel
theorem d_Ma_planStep_11 : decode b_Ma_planStep 11 = .ok (.aload_n 1, 1) := by decide +kernel
theorem d_Ma_planStep_12 : decode b_Ma_planStep 12 = .ok (.getfield 211, 3) := by decide +kernel
theorem d_Ma_planStep_15 : decode b_Ma_planStep 15 = .ok (.iload_n 3, 1) := by decide +kernel
theorem d_Ma_planStep_16 : decode b_Ma_planStep 16 = .ok (.iaload, 1) := by decide +kernel
theorem d_Ma_planStep_17 : decode b_Ma_planStep 17 = .ok (.aload_n 1, 1) := by decide +kernel
theorem d_Ma_planStep_18 : decode b_Ma_planStep 18 = .ok (.getfield 214, 3) := by decide +kernel
theorem d_Ma_planStep_21 : decode b_Ma_planStep 21 = .ok (.iload_n 3, 1) := by decide +kernel
theorem d_Ma_planStep_22 : decode b_Ma_planStep 22 = .ok (.iaload, 1) := by decide +kernel
theorem d_Ma_planStep_23 : decode b_Ma_planStep 23 = .ok (.aload_n 1, 1) := by decide +kernel
theorem d_Ma_planStep_24 : decode b_Ma_planStep 24 = .ok (.getfield 217, 3) := by decide +kernel
theorem d_Ma_planStep_27 : decode b_Ma_planStep 27 = .ok (.iload_n 3, 1) := by decide +kernel
theorem d_Ma_planStep_28 : decode b_Ma_planStep 28 = .ok (.iaload, 1) := by decide +kernel
theorem d_Ma_planStep_29 : decode b_Ma_planStep 29 = .ok (.invokevirtual 220, 3) := by decide +kernel
theorem d_Ma_planStep_32 : decode b_Ma_planStep 32 = .ok (.istore 4, 2) := by decide +kernel
theorem d_Ma_planStep_34 : decode b_Ma_planStep 34 = .ok (.aload_n 0, 1) := by decide +kernel
theorem d_Ma_planStep_35 : decode b_Ma_planStep 35 = .ok (.getfield 69, 3) := by decide +kernel
theorem d_Ma_planStep_38 : decode b_Ma_planStep 38 = .ok (.getfield 224, 3) := by decide +kernel
theorem d_Ma_planStep_41 : decode b_Ma_planStep 41 = .ok (.getfield 228, 3) := by decide +kernel
theorem d_Ma_planStep_44 : decode b_Ma_planStep 44 = .ok (.astore 5, 2) := by decide +kernel
theorem d_Ma_planStep_46 : decode b_Ma_planStep 46 = .ok (.aload 5, 2) := by decide +kernel
theorem d_Ma_planStep_48 : decode b_Ma_planStep 48 = .ok (.iload 4, 2) := by decide +kernel
theorem d_Ma_planStep_50 : decode b_Ma_planStep 50 = .ok (.iaload, 1) := by decide +kernel
theorem d_Ma_planStep_51 : decode b_Ma_planStep 51 = .ok (.istore 6, 2) := by decide +kernel
theorem d_Ma_planStep_53 : decode b_Ma_planStep 53 = .ok (.iload 6, 2) := by decide +kernel
theorem d_Ma_planStep_55 : decode b_Ma_planStep 55 = .ok (.bipush 60, 2) := by decide +kernel
theorem d_Ma_planStep_57 : decode b_Ma_planStep 57 = .ok (.if_icmp .ne 27, 3) := by decide +kernel
theorem d_Ma_planStep_60 : decode b_Ma_planStep 60 = .ok (.aload_n 0, 1) := by decide +kernel
theorem d_Ma_planStep_61 : decode b_Ma_planStep 61 = .ok (.getfield 12, 3) := by decide +kernel
theorem d_Ma_planStep_64 : decode b_Ma_planStep 64 = .ok (.aload_n 1, 1) := by decide +kernel
theorem d_Ma_planStep_65 : decode b_Ma_planStep 65 = .ok (.iconst 0, 1) := by decide +kernel
theorem d_Ma_planStep_66 : decode b_Ma_planStep 66 = .ok (.invokevirtual 233, 3) := by decide +kernel
theorem d_Ma_planStep_69 : decode b_Ma_planStep 69 = .ok (.l2i, 1) := by decide +kernel
theorem d_Ma_planStep_70 : decode b_Ma_planStep 70 = .ok (.iload_n 2, 1) := by decide +kernel
theorem d_Ma_planStep_71 : decode b_Ma_planStep 71 = .ok (.invokevirtual 237, 3) := by decide +kernel
theorem d_Ma_planStep_74 : decode b_Ma_planStep 74 = .ok (.ifCond .eq 7, 3) := by decide +kernel
theorem d_Ma_planStep_77 : decode b_Ma_planStep 77 = .ok (.iconst 0, 1) := by decide +kernel
theorem d_Ma_planStep_78 : decode b_Ma_planStep 78 = .ok (.goto 5, 3) := by decide +kernel
theorem d_Ma_planStep_81 : decode b_Ma_planStep 81 = .ok (.bipush 7, 2) := by decide +kernel
theorem d_Ma_planStep_83 : decode b_Ma_planStep 83 = .ok (.ireturn, 1) := by decide +kernel
theorem d_Ma_planStep_84 : decode b_Ma_planStep 84 = .ok (.iload 6, 2) := by decide +kernel
theorem d_Ma_planStep_86 : decode b_Ma_planStep 86 = .ok (.bipush 41, 2) := by decide +kernel
theorem d_Ma_planStep_88 : decode b_Ma_planStep 88 = .ok (.if_icmp .ne 28, 3) := by decide +kernel
theorem d_Ma_planStep_91 : decode b_Ma_planStep 91 = .ok (.aload_n 0, 1) := by decide +kernel
theorem d_Ma_planStep_92 : decode b_Ma_planStep 92 = .ok (.aload_n 0, 1) := by decide +kernel
theorem d_Ma_planStep_93 : decode b_Ma_planStep 93 = .ok (.getfield 73, 3) := by decide +kernel
theorem d_Ma_planStep_96 : decode b_Ma_planStep 96 = .ok (.aload_n 0, 1) := by decide +kernel
theorem d_Ma_planStep_97 : decode b_Ma_planStep 97 = .ok (.getfield 69, 3) := by decide +kernel
theorem d_Ma_planStep_100 : decode b_Ma_planStep 100 = .ok (.aload 5, 2) := by decide +kernel
theorem d_Ma_planStep_102 : decode b_Ma_planStep 102 = .ok (.iload 4, 2) := by decide +kernel
theorem d_Ma_planStep_104 : decode b_Ma_planStep 104 = .ok (.iconst 1, 1) := by decide +kernel
theorem d_Ma_planStep_105 : decode b_Ma_planStep 105 = .ok (.iadd, 1) := by decide +kernel
theorem d_Ma_planStep_106 : decode b_Ma_planStep 106 = .ok (.iaload, 1) := by decide +kernel
theorem d_Ma_planStep_107 : decode b_Ma_planStep 107 = .ok (.invokevirtual 241, 3) := by decide +kernel
theorem d_Ma_planStep_110 : decode b_Ma_planStep 110 = .ok (.putfield 60, 3) := by decide +kernel
theorem d_Ma_planStep_113 : decode b_Ma_planStep 113 = .ok (.goto 154, 3) := by decide +kernel
theorem d_Ma_planStep_116 : decode b_Ma_planStep 116 = .ok (.iload 6, 2) := by decide +kernel
theorem d_Ma_planStep_118 : decode b_Ma_planStep 118 = .ok (.bipush 46, 2) := by decide +kernel
theorem d_Ma_planStep_120 : decode b_Ma_planStep 120 = .ok (.if_icmp .lt 42, 3) := by decide +kernel
theorem d_Ma_planStep_123 : decode b_Ma_planStep 123 = .ok (.iload 6, 2) := by decide +kernel
theorem d_Ma_planStep_125 : decode b_Ma_planStep 125 = .ok (.bipush 49, 2) := by decide +kernel
theorem d_Ma_planStep_127 : decode b_Ma_planStep 127 = .ok (.if_icmp .gt 35, 3) := by decide +kernel
theorem d_Ma_planStep_130 : decode b_Ma_planStep 130 = .ok (.aload_n 0, 1) := by decide +kernel
theorem d_Ma_planStep_131 : decode b_Ma_planStep 131 = .ok (.aload_n 0, 1) := by decide +kernel
theorem d_Ma_planStep_132 : decode b_Ma_planStep 132 = .ok (.getfield 73, 3) := by decide +kernel
theorem d_Ma_planStep_135 : decode b_Ma_planStep 135 = .ok (.aload_n 0, 1) := by decide +kernel
theorem d_Ma_planStep_136 : decode b_Ma_planStep 136 = .ok (.getfield 69, 3) := by decide +kernel
theorem d_Ma_planStep_139 : decode b_Ma_planStep 139 = .ok (.aload_n 1, 1) := by decide +kernel
theorem d_Ma_planStep_140 : decode b_Ma_planStep 140 = .ok (.getfield 211, 3) := by decide +kernel
theorem d_Ma_planStep_143 : decode b_Ma_planStep 143 = .ok (.iload_n 3, 1) := by decide +kernel
theorem d_Ma_planStep_144 : decode b_Ma_planStep 144 = .ok (.iaload, 1) := by decide +kernel
theorem d_Ma_planStep_145 : decode b_Ma_planStep 145 = .ok (.aload_n 1, 1) := by decide +kernel
theorem d_Ma_planStep_146 : decode b_Ma_planStep 146 = .ok (.getfield 214, 3) := by decide +kernel
theorem d_Ma_planStep_149 : decode b_Ma_planStep 149 = .ok (.iload_n 3, 1) := by decide +kernel
theorem d_Ma_planStep_150 : decode b_Ma_planStep 150 = .ok (.iaload, 1) := by decide +kernel
theorem d_Ma_planStep_151 : decode b_Ma_planStep 151 = .ok (.iload 4, 2) := by decide +kernel
theorem d_Ma_planStep_153 : decode b_Ma_planStep 153 = .ok (.invokevirtual 244, 3) := by decide +kernel
theorem d_Ma_planStep_156 : decode b_Ma_planStep 156 = .ok (.putfield 60, 3) := by decide +kernel
theorem d_Ma_planStep_159 : decode b_Ma_planStep 159 = .ok (.goto 108, 3) := by decide +kernel
theorem d_Ma_planStep_162 : decode b_Ma_planStep 162 = .ok (.iload 6, 2) := by decide +kernel
theorem d_Ma_planStep_164 : decode b_Ma_planStep 164 = .ok (.bipush 50, 2) := by decide +kernel
theorem d_Ma_planStep_166 : decode b_Ma_planStep 166 = .ok (.if_icmp .lt 50, 3) := by decide +kernel
theorem d_Ma_planStep_169 : decode b_Ma_planStep 169 = .ok (.iload 6, 2) := by decide +kernel
theorem d_Ma_planStep_171 : decode b_Ma_planStep 171 = .ok (.bipush 53, 2) := by decide +kernel
theorem d_Ma_planStep_173 : decode b_Ma_planStep 173 = .ok (.if_icmp .gt 43, 3) := by decide +kernel
theorem d_Ma_planStep_176 : decode b_Ma_planStep 176 = .ok (.aload_n 0, 1) := by decide +kernel
theorem d_Ma_planStep_177 : decode b_Ma_planStep 177 = .ok (.aload_n 0, 1) := by decide +kernel
theorem d_Ma_planStep_178 : decode b_Ma_planStep 178 = .ok (.getfield 73, 3) := by decide +kernel
theorem d_Ma_planStep_181 : decode b_Ma_planStep 181 = .ok (.aload_n 0, 1) := by decide +kernel
theorem d_Ma_planStep_182 : decode b_Ma_planStep 182 = .ok (.getfield 69, 3) := by decide +kernel
theorem d_Ma_planStep_185 : decode b_Ma_planStep 185 = .ok (.aload_n 1, 1) := by decide +kernel
theorem d_Ma_planStep_186 : decode b_Ma_planStep 186 = .ok (.getfield 211, 3) := by decide +kernel
theorem d_Ma_planStep_189 : decode b_Ma_planStep 189 = .ok (.iload_n 3, 1) := by decide +kernel
theorem d_Ma_planStep_190 : decode b_Ma_planStep 190 = .ok (.iaload, 1) := by decide +kernel
theorem d_Ma_planStep_191 : decode b_Ma_planStep 191 = .ok (.iload 6, 2) := by decide +kernel
theorem d_Ma_planStep_193 : decode b_Ma_planStep 193 = .ok (.aload 5, 2) := by decide +kernel
theorem d_Ma_planStep_195 : decode b_Ma_planStep 195 = .ok (.iload 4, 2) := by decide +kernel
theorem d_Ma_planStep_197 : decode b_Ma_planStep 197 = .ok (.iconst 1, 1) := by decide +kernel
theorem d_Ma_planStep_198 : decode b_Ma_planStep 198 = .ok (.iadd, 1) := by decide +kernel
theorem d_Ma_planStep_199 : decode b_Ma_planStep 199 = .ok (.iaload, 1) := by decide +kernel
theorem d_Ma_planStep_200 : decode b_Ma_planStep 200 = .ok (.aload 5, 2) := by decide +kernel
theorem d_Ma_planStep_202 : decode b_Ma_planStep 202 = .ok (.iload 4, 2) := by decide +kernel
theorem d_Ma_planStep_204 : decode b_Ma_planStep 204 = .ok (.iconst 2, 1) := by decide +kernel
theorem d_Ma_planStep_205 : decode b_Ma_planStep 205 = .ok (.iadd, 1) := by decide +kernel
theorem d_Ma_planStep_206 : decode b_Ma_planStep 206 = .ok (.iaload, 1) := by decide +kernel
theorem d_Ma_planStep_207 : decode b_Ma_planStep 207 = .ok (.invokevirtual 201, 3) := by decide +kernel
theorem d_Ma_planStep_210 : decode b_Ma_planStep 210 = .ok (.putfield 60, 3) := by decide +kernel
theorem d_Ma_planStep_213 : decode b_Ma_planStep 213 = .ok (.goto 54, 3) := by decide +kernel
theorem d_Ma_planStep_216 : decode b_Ma_planStep 216 = .ok (.iload 6, 2) := by decide +kernel
theorem d_Ma_planStep_218 : decode b_Ma_planStep 218 = .ok (.bipush 54, 2) := by decide +kernel
theorem d_Ma_planStep_220 : decode b_Ma_planStep 220 = .ok (.if_icmp .eq 10, 3) := by decide +kernel
theorem d_Ma_planStep_223 : decode b_Ma_planStep 223 = .ok (.iload 6, 2) := by decide +kernel
theorem d_Ma_planStep_225 : decode b_Ma_planStep 225 = .ok (.bipush 55, 2) := by decide +kernel
theorem d_Ma_planStep_227 : decode b_Ma_planStep 227 = .ok (.if_icmp .ne 40, 3) := by decide +kernel
theorem d_Ma_planStep_230 : decode b_Ma_planStep 230 = .ok (.aload_n 1, 1) := by decide +kernel
theorem d_Ma_planStep_231 : decode b_Ma_planStep 231 = .ok (.iconst 0, 1) := by decide +kernel
theorem d_Ma_planStep_232 : decode b_Ma_planStep 232 = .ok (.invokevirtual 233, 3) := by decide +kernel
theorem d_Ma_planStep_235 : decode b_Ma_planStep 235 = .ok (.l2i, 1) := by decide +kernel
theorem d_Ma_planStep_236 : decode b_Ma_planStep 236 = .ok (.ifCond .eq 31, 3) := by decide +kernel
theorem d_Ma_planStep_239 : decode b_Ma_planStep 239 = .ok (.aload_n 0, 1) := by decide +kernel
theorem d_Ma_planStep_240 : decode b_Ma_planStep 240 = .ok (.aload_n 0, 1) := by decide +kernel
theorem d_Ma_planStep_241 : decode b_Ma_planStep 241 = .ok (.getfield 69, 3) := by decide +kernel
theorem d_Ma_planStep_244 : decode b_Ma_planStep 244 = .ok (.aload 5, 2) := by decide +kernel
theorem d_Ma_planStep_246 : decode b_Ma_planStep 246 = .ok (.iload 4, 2) := by decide +kernel
theorem d_Ma_planStep_248 : decode b_Ma_planStep 248 = .ok (.iconst 1, 1) := by decide +kernel
theorem d_Ma_planStep_249 : decode b_Ma_planStep 249 = .ok (.iadd, 1) := by decide +kernel
theorem d_Ma_planStep_250 : decode b_Ma_planStep 250 = .ok (.iaload, 1) := by decide +kernel
theorem d_Ma_planStep_251 : decode b_Ma_planStep 251 = .ok (.invokevirtual 248, 3) := by decide +kernel
theorem d_Ma_planStep_254 : decode b_Ma_planStep 254 = .ok (.ifCond .ge 9, 3) := by decide +kernel
theorem d_Ma_planStep_257 : decode b_Ma_planStep 257 = .ok (.sipush 5011, 3) := by decide +kernel
theorem d_Ma_planStep_260 : decode b_Ma_planStep 260 = .ok (.goto 4, 3) := by decide +kernel
theorem d_Ma_planStep_263 : decode b_Ma_planStep 263 = .ok (.iconst 0, 1) := by decide +kernel
theorem d_Ma_planStep_264 : decode b_Ma_planStep 264 = .ok (.putfield 60, 3) := by decide +kernel
theorem d_Ma_planStep_267 : decode b_Ma_planStep 267 = .ok (.aload_n 0, 1) := by decide +kernel
theorem d_Ma_planStep_268 : decode b_Ma_planStep 268 = .ok (.getfield 60, 3) := by decide +kernel
theorem d_Ma_planStep_271 : decode b_Ma_planStep 271 = .ok (.iconst (-1), 1) := by decide +kernel
theorem d_Ma_planStep_272 : decode b_Ma_planStep 272 = .ok (.if_icmp .ne 16, 3) := by decide +kernel
theorem d_Ma_planStep_275 : decode b_Ma_planStep 275 = .ok (.aload_n 0, 1) := by decide +kernel
theorem d_Ma_planStep_276 : decode b_Ma_planStep 276 = .ok (.aload_n 0, 1) := by decide +kernel
theorem d_Ma_planStep_277 : decode b_Ma_planStep 277 = .ok (.getfield 73, 3) := by decide +kernel
theorem d_Ma_planStep_280 : decode b_Ma_planStep 280 = .ok (.getfield 205, 3) := by decide +kernel
theorem d_Ma_planStep_283 : decode b_Ma_planStep 283 = .ok (.putfield 63, 3) := by decide +kernel
theorem d_Ma_planStep_286 : decode b_Ma_planStep 286 = .ok (.iconst 1, 1) := by decide +kernel
theorem d_Ma_planStep_287 : decode b_Ma_planStep 287 = .ok (.ireturn, 1) := by decide +kernel
theorem d_Ma_planStep_288 : decode b_Ma_planStep 288 = .ok (.iload 6, 2) := by decide +kernel
theorem d_Ma_planStep_290 : decode b_Ma_planStep 290 = .ok (.bipush 41, 2) := by decide +kernel
theorem d_Ma_planStep_292 : decode b_Ma_planStep 292 = .ok (.if_icmp .eq 24, 3) := by decide +kernel
theorem d_Ma_planStep_295 : decode b_Ma_planStep 295 = .ok (.iload 6, 2) := by decide +kernel
theorem d_Ma_planStep_297 : decode b_Ma_planStep 297 = .ok (.bipush 48, 2) := by decide +kernel
theorem d_Ma_planStep_299 : decode b_Ma_planStep 299 = .ok (.if_icmp .eq 17, 3) := by decide +kernel
theorem d_Ma_planStep_302 : decode b_Ma_planStep 302 = .ok (.iload 6, 2) := by decide +kernel
theorem d_Ma_planStep_304 : decode b_Ma_planStep 304 = .ok (.bipush 49, 2) := by decide +kernel
theorem d_Ma_planStep_306 : decode b_Ma_planStep 306 = .ok (.if_icmp .eq 10, 3) := by decide +kernel
theorem d_Ma_planStep_309 : decode b_Ma_planStep 309 = .ok (.iload 6, 2) := by decide +kernel
theorem d_Ma_planStep_311 : decode b_Ma_planStep 311 = .ok (.bipush 52, 2) := by decide +kernel
theorem d_Ma_planStep_313 : decode b_Ma_planStep 313 = .ok (.if_icmp .ne 7, 3) := by decide +kernel
theorem d_Ma_planStep_316 : decode b_Ma_planStep 316 = .ok (.iconst 1, 1) := by decide +kernel
theorem d_Ma_planStep_317 : decode b_Ma_planStep 317 = .ok (.goto 4, 3) := by decide +kernel
theorem d_Ma_planStep_320 : decode b_Ma_planStep 320 = .ok (.iconst 0, 1) := by decide +kernel
theorem d_Ma_planStep_321 : decode b_Ma_planStep 321 = .ok (.istore 7, 2) := by decide +kernel
theorem d_Ma_planStep_323 : decode b_Ma_planStep 323 = .ok (.aload_n 0, 1) := by decide +kernel
theorem d_Ma_planStep_324 : decode b_Ma_planStep 324 = .ok (.getfield 60, 3) := by decide +kernel
theorem d_Ma_planStep_327 : decode b_Ma_planStep 327 = .ok (.ifCond .ne 27, 3) := by decide +kernel
theorem d_Ma_planStep_330 : decode b_Ma_planStep 330 = .ok (.iload 7, 2) := by decide +kernel
theorem d_Ma_planStep_332 : decode b_Ma_planStep 332 = .ok (.ifCond .eq 22, 3) := by decide +kernel
theorem d_Ma_planStep_335 : decode b_Ma_planStep 335 = .ok (.aload_n 0, 1) := by decide +kernel
theorem d_Ma_planStep_336 : decode b_Ma_planStep 336 = .ok (.aload_n 0, 1) := by decide +kernel
theorem d_Ma_planStep_337 : decode b_Ma_planStep 337 = .ok (.getfield 73, 3) := by decide +kernel
theorem d_Ma_planStep_340 : decode b_Ma_planStep 340 = .ok (.getfield 208, 3) := by decide +kernel
theorem d_Ma_planStep_343 : decode b_Ma_planStep 343 = .ok (.iload_n 2, 1) := by decide +kernel
theorem d_Ma_planStep_344 : decode b_Ma_planStep 344 = .ok (.bipush 7, 2) := by decide +kernel
theorem d_Ma_planStep_346 : decode b_Ma_planStep 346 = .ok (.bipush 7, 2) := by decide +kernel
theorem d_Ma_planStep_348 : decode b_Ma_planStep 348 = .ok (.invokevirtual 180, 3) := by decide +kernel
theorem d_Ma_planStep_351 : decode b_Ma_planStep 351 = .ok (.goto 5, 3) := by decide +kernel
theorem d_Ma_planStep_354 : decode b_Ma_planStep 354 = .ok (.bipush 7, 2) := by decide +kernel
theorem d_Ma_planStep_356 : decode b_Ma_planStep 356 = .ok (.ireturn, 1) := by decide +kernel
abbrev ru_Ma_planStep : Room := { frames := 3, cells := 0, slots := 0, locals := 85 }
def wj_Ma_planStep_356 (y : Ly) (Post : St → Int32 → Prop) (a0 : Nat) (a1 : Nat) (s_j356 : St) (z0j356 : Int32) : Prop := Post s_j356 z0j356
def wj_Ma_planStep_354 (y : Ly) (Post : St → Int32 → Prop) (a0 : Nat) (a1 : Nat) (s_j354 : St) : Prop := wj_Ma_planStep_356 y Post a0 a1 s_j354 7
def wj_Ma_planStep_321 (y : Ly) (Post : St → Int32 → Prop) (a0 : Nat) (a1 : Nat) (s_j321 : St) (x2j321 : Int32) (z0j321 : Int32) : Prop := ((¬ (sV s_j321 a0 16) = 0 → wj_Ma_planStep_354 y Post a0 a1 s_j321) ∧ ((sV s_j321 a0 16) = 0 → ((z0j321 = 0 → wj_Ma_planStep_354 y Post a0 a1 s_j321) ∧ (¬ (z0j321 = 0) → wu_Ma_planStartOf y (fun (s_8 : St) (r_7 : Int32) => wj_Ma_planStep_356 y Post a0 a1 s_8 r_7) s_j321 a0 (sV s_j321 (lk a0 14) 0) x2j321 7 7))))
def wj_Ma_planStep_316 (y : Ly) (Post : St → Int32 → Prop) (a0 : Nat) (a1 : Nat) (s_j316 : St) (x2j316 : Int32) : Prop := wj_Ma_planStep_321 y Post a0 a1 s_j316 x2j316 1
def wj_Ma_planStep_267 (y : Ly) (Post : St → Int32 → Prop) (a0 : Nat) (a1 : Nat) (s_j267 : St) (x2j267 : Int32) (x6j267 : Int32) : Prop := ((¬ (sV s_j267 a0 16) = (-1) → ((x6j267 = 41 → wj_Ma_planStep_316 y Post a0 a1 s_j267 x2j267) ∧ (¬ (x6j267 = 41) → ((x6j267 = 48 → wj_Ma_planStep_316 y Post a0 a1 s_j267 x2j267) ∧ (¬ (x6j267 = 48) → ((x6j267 = 49 → wj_Ma_planStep_316 y Post a0 a1 s_j267 x2j267) ∧ (¬ (x6j267 = 49) → ((¬ x6j267 = 52 → wj_Ma_planStep_321 y Post a0 a1 s_j267 x2j267 0) ∧ (x6j267 = 52 → wj_Ma_planStep_316 y Post a0 a1 s_j267 x2j267))))))))) ∧ ((sV s_j267 a0 16) = (-1) → xP (uV s_j267 a0 17 (sV s_j267 (lk a0 14) 2)) (fun s_9 : St => Post s_9 1)))
def wj_Ma_planStep_264 (y : Ly) (Post : St → Int32 → Prop) (a0 : Nat) (a1 : Nat) (s_j264 : St) (x2j264 : Int32) (x6j264 : Int32) (z1j264 : Int32) : Prop := xP (uV s_j264 a0 16 z1j264) (fun s_15 : St => wj_Ma_planStep_267 y Post a0 a1 s_15 x2j264 x6j264)
def wj_Ma_planStep_230 (y : Ly) (Post : St → Int32 → Prop) (a0 : Nat) (a1 : Nat) (s_j230 : St) (x2j230 : Int32) (x4j230 : Int32) (x6j230 : Int32) : Prop := wu_Ru_fromTop y (fun (s_11 : St) (r_10 : Int64) => ((r_10.toInt32 = 0 → wj_Ma_planStep_267 y Post a0 a1 s_11 x2j230 x6j230) ∧ (¬ (r_10.toInt32 = 0) → xA y s_11 (lk (lk a0 0) 10) 0 (x4j230 + 1) (fun x_12 : Int32 => wu_Wd_number y (fun (s_14 : St) (r_13 : Int32) => ((0 ≤ r_13 → wj_Ma_planStep_264 y Post a0 a1 s_14 x2j230 x6j230 0) ∧ (¬ (0 ≤ r_13) → wj_Ma_planStep_264 y Post a0 a1 s_14 x2j230 x6j230 5011))) s_11 (lk a0 0) x_12)))) s_j230 a1 0
def wj_Ma_planStep_216 (y : Ly) (Post : St → Int32 → Prop) (a0 : Nat) (a1 : Nat) (s_j216 : St) (x2j216 : Int32) (x4j216 : Int32) (x6j216 : Int32) : Prop := ((x6j216 = 54 → wj_Ma_planStep_230 y Post a0 a1 s_j216 x2j216 x4j216 x6j216) ∧ (¬ (x6j216 = 54) → ((¬ x6j216 = 55 → wj_Ma_planStep_267 y Post a0 a1 s_j216 x2j216 x6j216) ∧ (x6j216 = 55 → wj_Ma_planStep_230 y Post a0 a1 s_j216 x2j216 x4j216 x6j216))))
def wj_Ma_planStep_162 (y : Ly) (Post : St → Int32 → Prop) (a0 : Nat) (a1 : Nat) (s_j162 : St) (x2j162 : Int32) (x3j162 : Int32) (x4j162 : Int32) (x6j162 : Int32) : Prop := ((x6j162 < 50 → wj_Ma_planStep_216 y Post a0 a1 s_j162 x2j162 x4j162 x6j162) ∧ (¬ (x6j162 < 50) → ((53 < x6j162 → wj_Ma_planStep_216 y Post a0 a1 s_j162 x2j162 x4j162 x6j162) ∧ (¬ (53 < x6j162) → xA y s_j162 a1 11 x3j162 (fun x_16 : Int32 => xA y s_j162 (lk (lk a0 0) 10) 0 (x4j162 + 1) (fun x_17 : Int32 => xA y s_j162 (lk (lk a0 0) 10) 0 (x4j162 + 2) (fun x_18 : Int32 => wu_Fi_findMethod y (fun (s_20 : St) (r_19 : Int32) => xP (uV s_20 a0 16 r_19) (fun s_21 : St => wj_Ma_planStep_267 y Post a0 a1 s_21 x2j162 x6j162)) s_j162 (lk a0 14) (lk a0 0) x_16 x6j162 x_17 x_18)))))))
def wj_Ma_planStep_83 (y : Ly) (Post : St → Int32 → Prop) (a0 : Nat) (a1 : Nat) (s_j83 : St) (z0j83 : Int32) : Prop := Post s_j83 z0j83
def wu_Ma_planStep (y : Ly) (Post : St → Int32 → Prop) (σ : St) (a0 : Nat) (a1 : Nat) (v2 : Int32) : Prop := xA y σ a1 11 ((sV σ a1 10) - 1) (fun x_1 : Int32 => xA y σ a1 12 ((sV σ a1 10) - 1) (fun x_2 : Int32 => xA y σ a1 13 ((sV σ a1 10) - 1) (fun x_3 : Int32 => wu_Wd_code y (fun (s_5 : St) (r_4 : Int32) => xA y s_5 (lk (lk a0 0) 10) 0 r_4 (fun x_6 : Int32 => ((¬ x_6 = 60 → ((¬ x_6 = 41 → ((x_6 < 46 → wj_Ma_planStep_162 y Post a0 a1 s_5 v2 ((sV σ a1 10) - 1) r_4 x_6) ∧ (¬ (x_6 < 46) → ((49 < x_6 → wj_Ma_planStep_162 y Post a0 a1 s_5 v2 ((sV σ a1 10) - 1) r_4 x_6) ∧ (¬ (49 < x_6) → xA y s_5 a1 11 ((sV σ a1 10) - 1) (fun x_22 : Int32 => xA y s_5 a1 12 ((sV σ a1 10) - 1) (fun x_23 : Int32 => wu_Fi_findField y (fun (s_25 : St) (r_24 : Int32) => xP (uV s_25 a0 16 r_24) (fun s_26 : St => wj_Ma_planStep_267 y Post a0 a1 s_26 v2 x_6)) s_5 (lk a0 14) (lk a0 0) x_22 x_23 r_4))))))) ∧ (x_6 = 41 → xA y s_5 (lk (lk a0 0) 10) 0 (r_4 + 1) (fun x_27 : Int32 => wu_Fi_findNew y (fun (s_29 : St) (r_28 : Int32) => xP (uV s_29 a0 16 r_28) (fun s_30 : St => wj_Ma_planStep_267 y Post a0 a1 s_30 v2 x_6)) s_5 (lk a0 14) (lk a0 0) x_27)))) ∧ (x_6 = 60 → wu_Ru_fromTop y (fun (s_32 : St) (r_31 : Int64) => wu_Hp_lockedByOther y (fun (s_34 : St) (r_33 : Int32) => ((r_33 = 0 → wj_Ma_planStep_83 y Post a0 a1 s_34 7) ∧ (¬ (r_33 = 0) → wj_Ma_planStep_83 y Post a0 a1 s_34 0))) s_32 (lk a0 1) r_31.toInt32 v2) s_5 a1 0)))) σ (lk a0 0) x_1 x_2 x_3)))
set_option maxHeartbeats 4000000 in
set_option maxRecDepth 100000 in
theorem cu_Ma_planStep (l : Launch) (D : va_G) (g : Nat → ClassId) (ad : Nat → Nat) (y : Ly) (Post : St → Int32 → Prop) (σ : St) (a0 : Nat) (a1 : Nat) (v2 : Int32) (sz : Nat) (h_a0 : cl a0 = 4) (h_a1 : cl a1 = 7) (h : wu_Ma_planStep y Post σ a0 a1 v2) : Met l y_Ma_planStep (mw y_Ma_planStep b_Ma_planStep 8 (some .int)) ru_Ma_planStep (PC g D [] [.ref (ad a0), .ref (ad a1), .int v2] sz (ws g ad y σ)) (va_Qi (fun (r : Int32) (u : St) => Post u r) (QW D (va_A (ws g ad y σ) sz) (fun u => ws g ad y u)) (va_A (ws g ad y σ) sz)) 0 0 (va_A (ws g ad y σ) sz) := by
  refine ofI (by decide +kernel) (Nat.le_of_ble_eq_true rfl) ?_
  intro p e s m args below meth c A Q ls H locs G hsz hP hD hS hl hret
  subst hsz
  have hl : lv_has ls 8 [(0, .ref (ad a0)), (1, .ref (ad a1)), (2, .int v2)] := hl
  unfold wu_Ma_planStep at h
  refine lv_aload_n G.1 G.2.1 d_Ma_planStep_0 rfl (lv_at hl 1 rfl) ?_
  refine ugf (v := .int (sV σ a1 10)) G hP h_a1 iRu rfl 10 (by decide) rfl q1006 rfl rfl d_Ma_planStep_1 ?_
  refine lv_iconst (v := 1) G.1 G.2.1 d_Ma_planStep_4 (by decide) ?_
  refine lv_isub G.1 G.2.1 d_Ma_planStep_5 ?_
  refine lv_istore_n (lv' := [(3, .int ((sV σ a1 10) - 1)), (0, .ref (ad a0)), (1, .ref (ad a1)), (2, .int v2)]) G.1 G.2.1 d_Ma_planStep_6 rfl hl (by decide) rfl (fun ls hl => ?_)
  refine lv_aload_n G.1 G.2.1 d_Ma_planStep_7 rfl (lv_at hl 1 rfl) ?_
  refine ugf (v := .ref (ad (lk a0 0))) G hP h_a0 iMa rfl 0 (by decide) rfl q1065 rfl rfl d_Ma_planStep_8 ?_
  refine lv_aload_n G.1 G.2.1 d_Ma_planStep_11 rfl (lv_at hl 2 rfl) ?_
  refine ugf (v := .ref (yP y a1 11)) G hP h_a1 iRu rfl 11 (by decide) rfl q1009 rfl rfl d_Ma_planStep_12 ?_
  refine lv_iload_n G.1 G.2.1 d_Ma_planStep_15 rfl (lv_at hl 0 rfl) ?_
  refine uiald G hP (kdp h_a1 rfl) (typ h_a1 rfl) h d_Ma_planStep_16 (fun x_1 h => ?_)
  refine W.eq (g2 := F0 m 17 ls [.int x_1, .ref (ad (lk a0 0))]) rfl ?_
  refine lv_aload_n G.1 G.2.1 d_Ma_planStep_17 rfl (lv_at hl 2 rfl) ?_
  refine ugf (v := .ref (yP y a1 12)) G hP h_a1 iRu rfl 12 (by decide) rfl q1012 rfl rfl d_Ma_planStep_18 ?_
  refine lv_iload_n G.1 G.2.1 d_Ma_planStep_21 rfl (lv_at hl 0 rfl) ?_
  refine uiald G hP (kdp h_a1 rfl) (typ h_a1 rfl) h d_Ma_planStep_22 (fun x_2 h => ?_)
  refine lv_aload_n G.1 G.2.1 d_Ma_planStep_23 rfl (lv_at hl 2 rfl) ?_
  refine ugf (v := .ref (yP y a1 13)) G hP h_a1 iRu rfl 13 (by decide) rfl q1015 rfl rfl d_Ma_planStep_24 ?_
  refine lv_iload_n G.1 G.2.1 d_Ma_planStep_27 rfl (lv_at hl 0 rfl) ?_
  refine uiald G hP (kdp h_a1 rfl) (typ h_a1 rfl) h d_Ma_planStep_28 (fun x_3 h => ?_)
  refine ucVi (As := [.int x_1, .int x_2, .int x_3]) (rest := []) G hP hD hS (cu_Wd_code l D g ad y _ σ (lk a0 0) x_1 x_2 x_3 H.size (lk_4_0 h_a0) h) w9_Wd_code q1837 ⟨Nat.le_of_ble_eq_true rfl, Nat.le_of_ble_eq_true rfl⟩ rfl rfl (lk_4_0 h_a0) (q := (RWd, TWd, 17)) rfl rfl hl.1 rfl (Nat.le_of_ble_eq_true rfl) rfl ⟨Nat.le_refl _, Nat.le_refl _⟩ d_Ma_planStep_29 (fun r_4 s_5 H locs h hP hD hS => ?_)
  refine lv_istore (lv' := [(4, .int r_4), (3, .int ((sV σ a1 10) - 1)), (0, .ref (ad a0)), (1, .ref (ad a1)), (2, .int v2)]) G.1 G.2.1 d_Ma_planStep_32 hl (by decide) rfl (fun ls hl => ?_)
  refine lv_aload_n G.1 G.2.1 d_Ma_planStep_34 rfl (lv_at hl 2 rfl) ?_
  refine ugf (v := .ref (ad (lk a0 0))) G hP h_a0 iMa rfl 0 (by decide) rfl q1065 rfl rfl d_Ma_planStep_35 ?_
  refine W.eq (g2 := F0 m 38 ls [.ref (ad (lk a0 0))]) rfl ?_
  refine ugf (v := .ref (ad (lk (lk a0 0) 10))) G hP (lk_4_0 h_a0) iWd rfl 10 (by decide) rfl q845 rfl rfl d_Ma_planStep_38 ?_
  refine ugf (v := .ref (yP y (lk (lk a0 0) 10) 0)) G hP (lk_9_10 (lk_4_0 h_a0)) iIn rfl 0 (by decide) rfl q385 rfl rfl d_Ma_planStep_41 ?_
  refine lv_astore (lv' := [(5, .ref (yP y (lk (lk a0 0) 10) 0)), (4, .int r_4), (3, .int ((sV σ a1 10) - 1)), (0, .ref (ad a0)), (1, .ref (ad a1)), (2, .int v2)]) G.1 G.2.1 d_Ma_planStep_44 hl (by decide) rfl (fun ls hl => ?_)
  refine lv_aload G.1 G.2.1 d_Ma_planStep_46 (lv_at hl 0 rfl) ?_
  refine lv_iload G.1 G.2.1 d_Ma_planStep_48 (lv_at hl 1 rfl) ?_
  refine uiald G hP (kdp (lk_9_10 (lk_4_0 h_a0)) rfl) (typ (lk_9_10 (lk_4_0 h_a0)) rfl) h d_Ma_planStep_50 (fun x_6 h => ?_)
  refine lv_istore (lv' := [(6, .int x_6), (5, .ref (yP y (lk (lk a0 0) 10) 0)), (4, .int r_4), (3, .int ((sV σ a1 10) - 1)), (0, .ref (ad a0)), (1, .ref (ad a1)), (2, .int v2)]) G.1 G.2.1 d_Ma_planStep_51 hl (by decide) rfl (fun ls hl => ?_)
  refine lv_iload G.1 G.2.1 d_Ma_planStep_53 (lv_at hl 0 rfl) ?_
  refine lv_bipush (v := 60) G.1 G.2.1 d_Ma_planStep_55 (by decide) ?_
  refine lv_icmp_ne (tgt := 84) G.1 G.2.1 d_Ma_planStep_57 (by decide) (fun c57 => ?_) (fun c57 => ?_)
  · skip
    have h := h.1 c57
    refine lv_iload G.1 G.2.1 d_Ma_planStep_84 (lv_at hl 0 rfl) ?_
    refine lv_bipush (v := 41) G.1 G.2.1 d_Ma_planStep_86 (by decide) ?_
    have J_267 : ∀ (s_j267 : St) (x2j267 : Int32) (x6j267 : Int32) (H : Heap) (locs : List Loc), wj_Ma_planStep_267 y Post a0 a1 s_j267 x2j267 x6j267 → va_P D CL (ws g ad y s_j267) H → va_D A (ws g ad y s_j267) → va_S A s.heap H locs → ∀ ls, lv_has ls 8 [(0, .ref (ad a0)), (2, .int x2j267), (6, .int x6j267)] → W p l e ru_Ma_planStep s m args below meth c H locs 0 0 Q (F0 m 267 ls []) := by
      intro s_j267 x2j267 x6j267 H locs h hP hD hS ls hl
      unfold wj_Ma_planStep_267 at h
      refine lv_aload_n G.1 G.2.1 d_Ma_planStep_267 rfl (lv_at hl 0 rfl) ?_
      refine ugf (v := .int (sV s_j267 a0 16)) G hP h_a0 iMa rfl 16 (by decide) rfl q1092 rfl rfl d_Ma_planStep_268 ?_
      refine lv_iconst (v := (-1)) G.1 G.2.1 d_Ma_planStep_271 (by decide) ?_
      refine lv_icmp_ne (tgt := 288) G.1 G.2.1 d_Ma_planStep_272 (by decide) (fun c272 => ?_) (fun c272 => ?_)
      · skip
        have h := h.1 c272
        refine lv_iload G.1 G.2.1 d_Ma_planStep_288 (lv_at hl 2 rfl) ?_
        refine lv_bipush (v := 41) G.1 G.2.1 d_Ma_planStep_290 (by decide) ?_
        have J_321 : ∀ (s_j321 : St) (x2j321 : Int32) (z0j321 : Int32) (H : Heap) (locs : List Loc), wj_Ma_planStep_321 y Post a0 a1 s_j321 x2j321 z0j321 → va_P D CL (ws g ad y s_j321) H → va_D A (ws g ad y s_j321) → va_S A s.heap H locs → ∀ ls, lv_has ls 8 [(0, .ref (ad a0)), (2, .int x2j321)] → W p l e ru_Ma_planStep s m args below meth c H locs 0 0 Q (F0 m 321 ls [.int z0j321]) := by
          intro s_j321 x2j321 z0j321 H locs h hP hD hS ls hl
          unfold wj_Ma_planStep_321 at h
          refine lv_istore (lv' := [(7, .int z0j321), (0, .ref (ad a0)), (2, .int x2j321)]) G.1 G.2.1 d_Ma_planStep_321 hl (by decide) rfl (fun ls hl => ?_)
          refine lv_aload_n G.1 G.2.1 d_Ma_planStep_323 rfl (lv_at hl 1 rfl) ?_
          refine ugf (v := .int (sV s_j321 a0 16)) G hP h_a0 iMa rfl 16 (by decide) rfl q1092 rfl rfl d_Ma_planStep_324 ?_
          have J_356 : ∀ (s_j356 : St) (z0j356 : Int32) (H : Heap) (locs : List Loc), wj_Ma_planStep_356 y Post a0 a1 s_j356 z0j356 → va_P D CL (ws g ad y s_j356) H → va_D A (ws g ad y s_j356) → va_S A s.heap H locs → ∀ ls, lv_has ls 8 [] → W p l e ru_Ma_planStep s m args below meth c H locs 0 0 Q (F0 m 356 ls [.int z0j356]) := by
            intro s_j356 z0j356 H locs h hP hD hS ls hl
            unfold wj_Ma_planStep_356 at h
            exact hret _ _ _ _ _ _ _ ls h hP hD hS (Nat.le_refl _) (Nat.le_refl _) d_Ma_planStep_356
          have J_354 : ∀ (s_j354 : St) (H : Heap) (locs : List Loc), wj_Ma_planStep_354 y Post a0 a1 s_j354 → va_P D CL (ws g ad y s_j354) H → va_D A (ws g ad y s_j354) → va_S A s.heap H locs → ∀ ls, lv_has ls 8 [] → W p l e ru_Ma_planStep s m args below meth c H locs 0 0 Q (F0 m 354 ls []) := by
            intro s_j354 H locs h hP hD hS ls hl
            unfold wj_Ma_planStep_354 at h
            refine lv_bipush (v := 7) G.1 G.2.1 d_Ma_planStep_354 (by decide) ?_
            exact J_356 s_j354 7 H locs h hP hD hS ls (lv_sub hl [] rfl)
          refine lv_if_ne (tgt := 354) G.1 G.2.1 d_Ma_planStep_327 (by decide) (fun c327 => ?_) (fun c327 => ?_)
          · skip
            have h := h.1 c327
            exact J_354 s_j321 H locs h hP hD hS ls (lv_sub hl [] rfl)
          · skip
            have h := h.2 c327
            refine lv_iload G.1 G.2.1 d_Ma_planStep_330 (lv_at hl 0 rfl) ?_
            refine lv_if_eq (tgt := 354) G.1 G.2.1 d_Ma_planStep_332 (by decide) (fun c332 => ?_) (fun c332 => ?_)
            · skip
              have h := h.1 c332
              exact J_354 s_j321 H locs h hP hD hS ls (lv_sub hl [] rfl)
            · skip
              have h := h.2 c332
              refine lv_aload_n G.1 G.2.1 d_Ma_planStep_335 rfl (lv_at hl 1 rfl) ?_
              refine lv_aload_n G.1 G.2.1 d_Ma_planStep_336 rfl (lv_at hl 1 rfl) ?_
              refine ugf (v := .ref (ad (lk a0 14))) G hP h_a0 iMa rfl 14 (by decide) rfl q1090 rfl rfl d_Ma_planStep_337 ?_
              refine ugf (v := .int (sV s_j321 (lk a0 14) 0)) G hP (lk_4_14 h_a0) iFi rfl 0 (by decide) rfl q727 rfl rfl d_Ma_planStep_340 ?_
              refine lv_iload_n G.1 G.2.1 d_Ma_planStep_343 rfl (lv_at hl 2 rfl) ?_
              refine W.eq (g2 := F0 m 344 ls [.int x2j321, .int (sV s_j321 (lk a0 14) 0), .ref (ad a0)]) rfl ?_
              refine lv_bipush (v := 7) G.1 G.2.1 d_Ma_planStep_344 (by decide) ?_
              refine lv_bipush (v := 7) G.1 G.2.1 d_Ma_planStep_346 (by decide) ?_
              refine ucVi (As := [.int (sV s_j321 (lk a0 14) 0), .int x2j321, .int 7, .int 7]) (rest := []) G hP hD hS (cu_Ma_planStartOf l D g ad y _ s_j321 a0 (sV s_j321 (lk a0 14) 0) x2j321 7 7 H.size h_a0 h) w9_Ma_planStartOf q1806 ⟨Nat.le_of_ble_eq_true rfl, Nat.le_of_ble_eq_true rfl⟩ rfl rfl h_a0 (q := (RMa, TMa, 19)) rfl rfl hl.1 rfl (Nat.le_of_ble_eq_true rfl) rfl ⟨Nat.le_refl _, Nat.le_refl _⟩ d_Ma_planStep_348 (fun r_7 s_8 H locs h hP hD hS => ?_)
              refine lv_goto (tgt := 356) G.1 G.2.1 d_Ma_planStep_351 (by decide) ?_
              exact J_356 s_8 r_7 H locs h hP hD hS ls (lv_sub hl [] rfl)
        have J_316 : ∀ (s_j316 : St) (x2j316 : Int32) (H : Heap) (locs : List Loc), wj_Ma_planStep_316 y Post a0 a1 s_j316 x2j316 → va_P D CL (ws g ad y s_j316) H → va_D A (ws g ad y s_j316) → va_S A s.heap H locs → ∀ ls, lv_has ls 8 [(0, .ref (ad a0)), (2, .int x2j316)] → W p l e ru_Ma_planStep s m args below meth c H locs 0 0 Q (F0 m 316 ls []) := by
          intro s_j316 x2j316 H locs h hP hD hS ls hl
          unfold wj_Ma_planStep_316 at h
          refine lv_iconst (v := 1) G.1 G.2.1 d_Ma_planStep_316 (by decide) ?_
          refine lv_goto (tgt := 321) G.1 G.2.1 d_Ma_planStep_317 (by decide) ?_
          exact J_321 s_j316 x2j316 1 H locs h hP hD hS ls (lv_sub hl [0, 1] rfl)
        refine lv_icmp_eq (tgt := 316) G.1 G.2.1 d_Ma_planStep_292 (by decide) (fun c292 => ?_) (fun c292 => ?_)
        · skip
          have h := h.1 c292
          exact J_316 s_j267 x2j267 H locs h hP hD hS ls (lv_sub hl [0, 1] rfl)
        · skip
          have h := h.2 c292
          refine lv_iload G.1 G.2.1 d_Ma_planStep_295 (lv_at hl 2 rfl) ?_
          refine lv_bipush (v := 48) G.1 G.2.1 d_Ma_planStep_297 (by decide) ?_
          refine lv_icmp_eq (tgt := 316) G.1 G.2.1 d_Ma_planStep_299 (by decide) (fun c299 => ?_) (fun c299 => ?_)
          · skip
            have h := h.1 c299
            exact J_316 s_j267 x2j267 H locs h hP hD hS ls (lv_sub hl [0, 1] rfl)
          · skip
            have h := h.2 c299
            refine lv_iload G.1 G.2.1 d_Ma_planStep_302 (lv_at hl 2 rfl) ?_
            refine W.eq (g2 := F0 m 304 ls [.int x6j267]) rfl ?_
            refine lv_bipush (v := 49) G.1 G.2.1 d_Ma_planStep_304 (by decide) ?_
            refine lv_icmp_eq (tgt := 316) G.1 G.2.1 d_Ma_planStep_306 (by decide) (fun c306 => ?_) (fun c306 => ?_)
            · skip
              have h := h.1 c306
              exact J_316 s_j267 x2j267 H locs h hP hD hS ls (lv_sub hl [0, 1] rfl)
            · skip
              have h := h.2 c306
              refine lv_iload G.1 G.2.1 d_Ma_planStep_309 (lv_at hl 2 rfl) ?_
              refine lv_bipush (v := 52) G.1 G.2.1 d_Ma_planStep_311 (by decide) ?_
              refine lv_icmp_ne (tgt := 320) G.1 G.2.1 d_Ma_planStep_313 (by decide) (fun c313 => ?_) (fun c313 => ?_)
              · skip
                have h := h.1 c313
                refine lv_iconst (v := 0) G.1 G.2.1 d_Ma_planStep_320 (by decide) ?_
                exact J_321 s_j267 x2j267 0 H locs h hP hD hS ls (lv_sub hl [0, 1] rfl)
              · skip
                have h := h.2 c313
                exact J_316 s_j267 x2j267 H locs h hP hD hS ls (lv_sub hl [0, 1] rfl)
      · skip
        have h := h.2 c272
        refine lv_aload_n G.1 G.2.1 d_Ma_planStep_275 rfl (lv_at hl 0 rfl) ?_
        refine lv_aload_n G.1 G.2.1 d_Ma_planStep_276 rfl (lv_at hl 0 rfl) ?_
        refine ugf (v := .ref (ad (lk a0 14))) G hP h_a0 iMa rfl 14 (by decide) rfl q1090 rfl rfl d_Ma_planStep_277 ?_
        refine ugf (v := .int (sV s_j267 (lk a0 14) 2)) G hP (lk_4_14 h_a0) iFi rfl 2 (by decide) rfl q733 rfl rfl d_Ma_planStep_280 ?_
        refine upf G hP hD hS h 17 putV h_a0 iMa tMa tMa_ok nMa rfl (by decide) rfl q1093 rfl rfl fV rfl rfl d_Ma_planStep_283 (fun s_9 H locs h hP hD hS => ?_)
        refine lv_iconst (v := 1) G.1 G.2.1 d_Ma_planStep_286 (by decide) ?_
        exact hret _ _ _ _ _ _ _ ls h hP hD hS (Nat.le_refl _) (Nat.le_refl _) d_Ma_planStep_287
    refine W.eq (g2 := F0 m 88 ls [.int 41, .int x_6]) rfl ?_
    refine lv_icmp_ne (tgt := 116) G.1 G.2.1 d_Ma_planStep_88 (by decide) (fun c88 => ?_) (fun c88 => ?_)
    · skip
      have h := h.1 c88
      refine lv_iload G.1 G.2.1 d_Ma_planStep_116 (lv_at hl 0 rfl) ?_
      refine lv_bipush (v := 46) G.1 G.2.1 d_Ma_planStep_118 (by decide) ?_
      have J_162 : ∀ (s_j162 : St) (x2j162 : Int32) (x3j162 : Int32) (x4j162 : Int32) (x6j162 : Int32) (H : Heap) (locs : List Loc), wj_Ma_planStep_162 y Post a0 a1 s_j162 x2j162 x3j162 x4j162 x6j162 → va_P D CL (ws g ad y s_j162) H → va_D A (ws g ad y s_j162) → va_S A s.heap H locs → ∀ ls, lv_has ls 8 [(0, .ref (ad a0)), (1, .ref (ad a1)), (2, .int x2j162), (3, .int x3j162), (4, .int x4j162), (5, .ref (yP y (lk (lk a0 0) 10) 0)), (6, .int x6j162)] → W p l e ru_Ma_planStep s m args below meth c H locs 0 0 Q (F0 m 162 ls []) := by
        intro s_j162 x2j162 x3j162 x4j162 x6j162 H locs h hP hD hS ls hl
        unfold wj_Ma_planStep_162 at h
        refine lv_iload G.1 G.2.1 d_Ma_planStep_162 (lv_at hl 6 rfl) ?_
        refine lv_bipush (v := 50) G.1 G.2.1 d_Ma_planStep_164 (by decide) ?_
        have J_216 : ∀ (s_j216 : St) (x2j216 : Int32) (x4j216 : Int32) (x6j216 : Int32) (H : Heap) (locs : List Loc), wj_Ma_planStep_216 y Post a0 a1 s_j216 x2j216 x4j216 x6j216 → va_P D CL (ws g ad y s_j216) H → va_D A (ws g ad y s_j216) → va_S A s.heap H locs → ∀ ls, lv_has ls 8 [(0, .ref (ad a0)), (1, .ref (ad a1)), (2, .int x2j216), (4, .int x4j216), (5, .ref (yP y (lk (lk a0 0) 10) 0)), (6, .int x6j216)] → W p l e ru_Ma_planStep s m args below meth c H locs 0 0 Q (F0 m 216 ls []) := by
          intro s_j216 x2j216 x4j216 x6j216 H locs h hP hD hS ls hl
          unfold wj_Ma_planStep_216 at h
          refine lv_iload G.1 G.2.1 d_Ma_planStep_216 (lv_at hl 5 rfl) ?_
          refine lv_bipush (v := 54) G.1 G.2.1 d_Ma_planStep_218 (by decide) ?_
          have J_230 : ∀ (s_j230 : St) (x2j230 : Int32) (x4j230 : Int32) (x6j230 : Int32) (H : Heap) (locs : List Loc), wj_Ma_planStep_230 y Post a0 a1 s_j230 x2j230 x4j230 x6j230 → va_P D CL (ws g ad y s_j230) H → va_D A (ws g ad y s_j230) → va_S A s.heap H locs → ∀ ls, lv_has ls 8 [(0, .ref (ad a0)), (1, .ref (ad a1)), (2, .int x2j230), (4, .int x4j230), (5, .ref (yP y (lk (lk a0 0) 10) 0)), (6, .int x6j230)] → W p l e ru_Ma_planStep s m args below meth c H locs 0 0 Q (F0 m 230 ls []) := by
            intro s_j230 x2j230 x4j230 x6j230 H locs h hP hD hS ls hl
            unfold wj_Ma_planStep_230 at h
            refine lv_aload_n G.1 G.2.1 d_Ma_planStep_230 rfl (lv_at hl 1 rfl) ?_
            refine lv_iconst (v := 0) G.1 G.2.1 d_Ma_planStep_231 (by decide) ?_
            refine ucVl (As := [.int 0]) (rest := []) G hP hD hS (cu_Ru_fromTop l D g ad y _ s_j230 a1 0 H.size h_a1 h) w9_Ru_fromTop q1841 ⟨Nat.le_of_ble_eq_true rfl, Nat.le_of_ble_eq_true rfl⟩ rfl rfl h_a1 (q := (RRu, TRu, 19)) rfl rfl hl.1 rfl (Nat.le_of_ble_eq_true rfl) rfl ⟨Nat.le_refl _, Nat.le_refl _⟩ d_Ma_planStep_232 (fun r_10 s_11 H locs h hP hD hS => ?_)
            refine lv_l2i G.1 G.2.1 d_Ma_planStep_235 rfl ?_
            refine lv_if_eq (tgt := 267) G.1 G.2.1 d_Ma_planStep_236 (by decide) (fun c236 => ?_) (fun c236 => ?_)
            · skip
              have h := h.1 c236
              exact J_267 s_11 x2j230 x6j230 H locs h hP hD hS ls (lv_sub hl [0, 2, 5] rfl)
            · skip
              have h := h.2 c236
              refine lv_aload_n G.1 G.2.1 d_Ma_planStep_239 rfl (lv_at hl 0 rfl) ?_
              refine lv_aload_n G.1 G.2.1 d_Ma_planStep_240 rfl (lv_at hl 0 rfl) ?_
              refine ugf (v := .ref (ad (lk a0 0))) G hP h_a0 iMa rfl 0 (by decide) rfl q1065 rfl rfl d_Ma_planStep_241 ?_
              refine lv_aload G.1 G.2.1 d_Ma_planStep_244 (lv_at hl 4 rfl) ?_
              refine lv_iload G.1 G.2.1 d_Ma_planStep_246 (lv_at hl 3 rfl) ?_
              refine lv_iconst (v := 1) G.1 G.2.1 d_Ma_planStep_248 (by decide) ?_
              refine W.eq (g2 := F0 m 249 ls [.int 1, .int x4j230, .ref (yP y (lk (lk a0 0) 10) 0), .ref (ad (lk a0 0)), .ref (ad a0)]) rfl ?_
              refine lv_iadd G.1 G.2.1 d_Ma_planStep_249 ?_
              refine uiald G hP (kdp (lk_9_10 (lk_4_0 h_a0)) rfl) (typ (lk_9_10 (lk_4_0 h_a0)) rfl) h d_Ma_planStep_250 (fun x_12 h => ?_)
              refine ucVi (As := [.int x_12]) (rest := [.ref (ad a0)]) G hP hD hS (cu_Wd_number l D g ad y _ s_11 (lk a0 0) x_12 H.size (lk_4_0 h_a0) h) w9_Wd_number q1866 ⟨Nat.le_of_ble_eq_true rfl, Nat.le_of_ble_eq_true rfl⟩ rfl rfl (lk_4_0 h_a0) (q := (RWd, TWd, 17)) rfl rfl hl.1 rfl (Nat.le_of_ble_eq_true rfl) rfl ⟨Nat.le_refl _, Nat.le_refl _⟩ d_Ma_planStep_251 (fun r_13 s_14 H locs h hP hD hS => ?_)
              have J_264 : ∀ (s_j264 : St) (x2j264 : Int32) (x6j264 : Int32) (z1j264 : Int32) (H : Heap) (locs : List Loc), wj_Ma_planStep_264 y Post a0 a1 s_j264 x2j264 x6j264 z1j264 → va_P D CL (ws g ad y s_j264) H → va_D A (ws g ad y s_j264) → va_S A s.heap H locs → ∀ ls, lv_has ls 8 [(0, .ref (ad a0)), (2, .int x2j264), (6, .int x6j264)] → W p l e ru_Ma_planStep s m args below meth c H locs 0 0 Q (F0 m 264 ls [.int z1j264, .ref (ad a0)]) := by
                intro s_j264 x2j264 x6j264 z1j264 H locs h hP hD hS ls hl
                unfold wj_Ma_planStep_264 at h
                refine upf G hP hD hS h 16 putV h_a0 iMa tMa tMa_ok nMa rfl (by decide) rfl q1092 rfl rfl fV rfl rfl d_Ma_planStep_264 (fun s_15 H locs h hP hD hS => ?_)
                exact J_267 s_15 x2j264 x6j264 H locs h hP hD hS ls (lv_sub hl [0, 1, 2] rfl)
              refine lv_if_ge (tgt := 263) G.1 G.2.1 d_Ma_planStep_254 (by decide) (fun c254 => ?_) (fun c254 => ?_)
              · skip
                have h := h.1 c254
                refine lv_iconst (v := 0) G.1 G.2.1 d_Ma_planStep_263 (by decide) ?_
                exact J_264 s_14 x2j230 x6j230 0 H locs h hP hD hS ls (lv_sub hl [0, 2, 5] rfl)
              · skip
                have h := h.2 c254
                refine lv_sipush (v := 5011) G.1 G.2.1 d_Ma_planStep_257 (by decide) ?_
                refine lv_goto (tgt := 264) G.1 G.2.1 d_Ma_planStep_260 (by decide) ?_
                exact J_264 s_14 x2j230 x6j230 5011 H locs h hP hD hS ls (lv_sub hl [0, 2, 5] rfl)
          refine lv_icmp_eq (tgt := 230) G.1 G.2.1 d_Ma_planStep_220 (by decide) (fun c220 => ?_) (fun c220 => ?_)
          · skip
            have h := h.1 c220
            exact J_230 s_j216 x2j216 x4j216 x6j216 H locs h hP hD hS ls (lv_sub hl [0, 1, 2, 3, 4, 5] rfl)
          · skip
            have h := h.2 c220
            refine lv_iload G.1 G.2.1 d_Ma_planStep_223 (lv_at hl 5 rfl) ?_
            refine lv_bipush (v := 55) G.1 G.2.1 d_Ma_planStep_225 (by decide) ?_
            refine lv_icmp_ne (tgt := 267) G.1 G.2.1 d_Ma_planStep_227 (by decide) (fun c227 => ?_) (fun c227 => ?_)
            · skip
              have h := h.1 c227
              exact J_267 s_j216 x2j216 x6j216 H locs h hP hD hS ls (lv_sub hl [0, 2, 5] rfl)
            · skip
              have h := h.2 c227
              exact J_230 s_j216 x2j216 x4j216 x6j216 H locs h hP hD hS ls (lv_sub hl [0, 1, 2, 3, 4, 5] rfl)
        refine lv_icmp_lt (tgt := 216) G.1 G.2.1 d_Ma_planStep_166 (by decide) (fun c166 => ?_) (fun c166 => ?_)
        · skip
          have h := h.1 c166
          exact J_216 s_j162 x2j162 x4j162 x6j162 H locs h hP hD hS ls (lv_sub hl [0, 1, 2, 4, 5, 6] rfl)
        · skip
          have h := h.2 c166
          refine lv_iload G.1 G.2.1 d_Ma_planStep_169 (lv_at hl 6 rfl) ?_
          refine lv_bipush (v := 53) G.1 G.2.1 d_Ma_planStep_171 (by decide) ?_
          refine lv_icmp_gt (tgt := 216) G.1 G.2.1 d_Ma_planStep_173 (by decide) (fun c173 => ?_) (fun c173 => ?_)
          · skip
            have h := h.1 c173
            exact J_216 s_j162 x2j162 x4j162 x6j162 H locs h hP hD hS ls (lv_sub hl [0, 1, 2, 4, 5, 6] rfl)
          · skip
            have h := h.2 c173
            refine lv_aload_n G.1 G.2.1 d_Ma_planStep_176 rfl (lv_at hl 0 rfl) ?_
            refine lv_aload_n G.1 G.2.1 d_Ma_planStep_177 rfl (lv_at hl 0 rfl) ?_
            refine ugf (v := .ref (ad (lk a0 14))) G hP h_a0 iMa rfl 14 (by decide) rfl q1090 rfl rfl d_Ma_planStep_178 ?_
            refine lv_aload_n G.1 G.2.1 d_Ma_planStep_181 rfl (lv_at hl 0 rfl) ?_
            refine ugf (v := .ref (ad (lk a0 0))) G hP h_a0 iMa rfl 0 (by decide) rfl q1065 rfl rfl d_Ma_planStep_182 ?_
            refine W.eq (g2 := F0 m 185 ls [.ref (ad (lk a0 0)), .ref (ad (lk a0 14)), .ref (ad a0)]) rfl ?_
            refine lv_aload_n G.1 G.2.1 d_Ma_planStep_185 rfl (lv_at hl 1 rfl) ?_
            refine ugf (v := .ref (yP y a1 11)) G hP h_a1 iRu rfl 11 (by decide) rfl q1009 rfl rfl d_Ma_planStep_186 ?_
            refine lv_iload_n G.1 G.2.1 d_Ma_planStep_189 rfl (lv_at hl 3 rfl) ?_
            refine uiald G hP (kdp h_a1 rfl) (typ h_a1 rfl) h d_Ma_planStep_190 (fun x_16 h => ?_)
            refine lv_iload G.1 G.2.1 d_Ma_planStep_191 (lv_at hl 6 rfl) ?_
            refine lv_aload G.1 G.2.1 d_Ma_planStep_193 (lv_at hl 5 rfl) ?_
            refine lv_iload G.1 G.2.1 d_Ma_planStep_195 (lv_at hl 4 rfl) ?_
            refine lv_iconst (v := 1) G.1 G.2.1 d_Ma_planStep_197 (by decide) ?_
            refine lv_iadd G.1 G.2.1 d_Ma_planStep_198 ?_
            refine uiald G hP (kdp (lk_9_10 (lk_4_0 h_a0)) rfl) (typ (lk_9_10 (lk_4_0 h_a0)) rfl) h d_Ma_planStep_199 (fun x_17 h => ?_)
            refine lv_aload G.1 G.2.1 d_Ma_planStep_200 (lv_at hl 5 rfl) ?_
            refine lv_iload G.1 G.2.1 d_Ma_planStep_202 (lv_at hl 4 rfl) ?_
            refine W.eq (g2 := F0 m 204 ls [.int x4j162, .ref (yP y (lk (lk a0 0) 10) 0), .int x_17, .int x6j162, .int x_16, .ref (ad (lk a0 0)), .ref (ad (lk a0 14)), .ref (ad a0)]) rfl ?_
            refine lv_iconst (v := 2) G.1 G.2.1 d_Ma_planStep_204 (by decide) ?_
            refine lv_iadd G.1 G.2.1 d_Ma_planStep_205 ?_
            refine uiald G hP (kdp (lk_9_10 (lk_4_0 h_a0)) rfl) (typ (lk_9_10 (lk_4_0 h_a0)) rfl) h d_Ma_planStep_206 (fun x_18 h => ?_)
            refine ucVi (As := [.ref (ad (lk a0 0)), .int x_16, .int x6j162, .int x_17, .int x_18]) (rest := [.ref (ad a0)]) G hP hD hS (cu_Fi_findMethod l D g ad y _ s_j162 (lk a0 14) (lk a0 0) x_16 x6j162 x_17 x_18 H.size (lk_4_14 h_a0) (lk_4_0 h_a0) h) w9_Fi_findMethod q1816 ⟨Nat.le_of_ble_eq_true rfl, Nat.le_of_ble_eq_true rfl⟩ rfl rfl (lk_4_14 h_a0) (q := (RFi, TFi, 10)) rfl rfl hl.1 rfl (Nat.le_of_ble_eq_true rfl) rfl ⟨Nat.le_refl _, Nat.le_refl _⟩ d_Ma_planStep_207 (fun r_19 s_20 H locs h hP hD hS => ?_)
            refine upf G hP hD hS h 16 putV h_a0 iMa tMa tMa_ok nMa rfl (by decide) rfl q1092 rfl rfl fV rfl rfl d_Ma_planStep_210 (fun s_21 H locs h hP hD hS => ?_)
            refine lv_goto (tgt := 267) G.1 G.2.1 d_Ma_planStep_213 (by decide) ?_
            exact J_267 s_21 x2j162 x6j162 H locs h hP hD hS ls (lv_sub hl [0, 2, 6] rfl)
      refine lv_icmp_lt (tgt := 162) G.1 G.2.1 d_Ma_planStep_120 (by decide) (fun c120 => ?_) (fun c120 => ?_)
      · skip
        have h := h.1 c120
        exact J_162 s_5 v2 ((sV σ a1 10) - 1) r_4 x_6 H locs h hP hD hS ls (lv_sub hl [4, 5, 6, 3, 2, 1, 0] rfl)
      · skip
        have h := h.2 c120
        refine lv_iload G.1 G.2.1 d_Ma_planStep_123 (lv_at hl 0 rfl) ?_
        refine lv_bipush (v := 49) G.1 G.2.1 d_Ma_planStep_125 (by decide) ?_
        refine lv_icmp_gt (tgt := 162) G.1 G.2.1 d_Ma_planStep_127 (by decide) (fun c127 => ?_) (fun c127 => ?_)
        · skip
          have h := h.1 c127
          exact J_162 s_5 v2 ((sV σ a1 10) - 1) r_4 x_6 H locs h hP hD hS ls (lv_sub hl [4, 5, 6, 3, 2, 1, 0] rfl)
        · skip
          have h := h.2 c127
          refine lv_aload_n G.1 G.2.1 d_Ma_planStep_130 rfl (lv_at hl 4 rfl) ?_
          refine lv_aload_n G.1 G.2.1 d_Ma_planStep_131 rfl (lv_at hl 4 rfl) ?_
          refine ugf (v := .ref (ad (lk a0 14))) G hP h_a0 iMa rfl 14 (by decide) rfl q1090 rfl rfl d_Ma_planStep_132 ?_
          refine lv_aload_n G.1 G.2.1 d_Ma_planStep_135 rfl (lv_at hl 4 rfl) ?_
          refine ugf (v := .ref (ad (lk a0 0))) G hP h_a0 iMa rfl 0 (by decide) rfl q1065 rfl rfl d_Ma_planStep_136 ?_
          refine W.eq (g2 := F0 m 139 ls [.ref (ad (lk a0 0)), .ref (ad (lk a0 14)), .ref (ad a0)]) rfl ?_
          refine lv_aload_n G.1 G.2.1 d_Ma_planStep_139 rfl (lv_at hl 5 rfl) ?_
          refine ugf (v := .ref (yP y a1 11)) G hP h_a1 iRu rfl 11 (by decide) rfl q1009 rfl rfl d_Ma_planStep_140 ?_
          refine lv_iload_n G.1 G.2.1 d_Ma_planStep_143 rfl (lv_at hl 3 rfl) ?_
          refine uiald G hP (kdp h_a1 rfl) (typ h_a1 rfl) h d_Ma_planStep_144 (fun x_22 h => ?_)
          refine lv_aload_n G.1 G.2.1 d_Ma_planStep_145 rfl (lv_at hl 5 rfl) ?_
          refine ugf (v := .ref (yP y a1 12)) G hP h_a1 iRu rfl 12 (by decide) rfl q1012 rfl rfl d_Ma_planStep_146 ?_
          refine lv_iload_n G.1 G.2.1 d_Ma_planStep_149 rfl (lv_at hl 3 rfl) ?_
          refine uiald G hP (kdp h_a1 rfl) (typ h_a1 rfl) h d_Ma_planStep_150 (fun x_23 h => ?_)
          refine lv_iload G.1 G.2.1 d_Ma_planStep_151 (lv_at hl 2 rfl) ?_
          refine ucVi (As := [.ref (ad (lk a0 0)), .int x_22, .int x_23, .int r_4]) (rest := [.ref (ad a0)]) G hP hD hS (cu_Fi_findField l D g ad y _ s_5 (lk a0 14) (lk a0 0) x_22 x_23 r_4 H.size (lk_4_14 h_a0) (lk_4_0 h_a0) h) w9_Fi_findField q1857 ⟨Nat.le_of_ble_eq_true rfl, Nat.le_of_ble_eq_true rfl⟩ rfl rfl (lk_4_14 h_a0) (q := (RFi, TFi, 10)) rfl rfl hl.1 rfl (Nat.le_of_ble_eq_true rfl) rfl ⟨Nat.le_refl _, Nat.le_refl _⟩ d_Ma_planStep_153 (fun r_24 s_25 H locs h hP hD hS => ?_)
          refine upf G hP hD hS h 16 putV h_a0 iMa tMa tMa_ok nMa rfl (by decide) rfl q1092 rfl rfl fV rfl rfl d_Ma_planStep_156 (fun s_26 H locs h hP hD hS => ?_)
          refine lv_goto (tgt := 267) G.1 G.2.1 d_Ma_planStep_159 (by decide) ?_
          exact J_267 s_26 v2 x_6 H locs h hP hD hS ls (lv_sub hl [4, 6, 0] rfl)
    · skip
      have h := h.2 c88
      refine lv_aload_n G.1 G.2.1 d_Ma_planStep_91 rfl (lv_at hl 4 rfl) ?_
      refine lv_aload_n G.1 G.2.1 d_Ma_planStep_92 rfl (lv_at hl 4 rfl) ?_
      refine ugf (v := .ref (ad (lk a0 14))) G hP h_a0 iMa rfl 14 (by decide) rfl q1090 rfl rfl d_Ma_planStep_93 ?_
      refine lv_aload_n G.1 G.2.1 d_Ma_planStep_96 rfl (lv_at hl 4 rfl) ?_
      refine ugf (v := .ref (ad (lk a0 0))) G hP h_a0 iMa rfl 0 (by decide) rfl q1065 rfl rfl d_Ma_planStep_97 ?_
      refine lv_aload G.1 G.2.1 d_Ma_planStep_100 (lv_at hl 1 rfl) ?_
      refine lv_iload G.1 G.2.1 d_Ma_planStep_102 (lv_at hl 2 rfl) ?_
      refine lv_iconst (v := 1) G.1 G.2.1 d_Ma_planStep_104 (by decide) ?_
      refine lv_iadd G.1 G.2.1 d_Ma_planStep_105 ?_
      refine uiald G hP (kdp (lk_9_10 (lk_4_0 h_a0)) rfl) (typ (lk_9_10 (lk_4_0 h_a0)) rfl) h d_Ma_planStep_106 (fun x_27 h => ?_)
      refine ucVi (As := [.ref (ad (lk a0 0)), .int x_27]) (rest := [.ref (ad a0)]) G hP hD hS (cu_Fi_findNew l D g ad y _ s_5 (lk a0 14) (lk a0 0) x_27 H.size (lk_4_14 h_a0) (lk_4_0 h_a0) h) w9_Fi_findNew q1853 ⟨Nat.le_of_ble_eq_true rfl, Nat.le_of_ble_eq_true rfl⟩ rfl rfl (lk_4_14 h_a0) (q := (RFi, TFi, 10)) rfl rfl hl.1 rfl (Nat.le_of_ble_eq_true rfl) rfl ⟨Nat.le_refl _, Nat.le_refl _⟩ d_Ma_planStep_107 (fun r_28 s_29 H locs h hP hD hS => ?_)
      refine W.eq (g2 := F0 m 110 ls [.int r_28, .ref (ad a0)]) rfl ?_
      refine upf G hP hD hS h 16 putV h_a0 iMa tMa tMa_ok nMa rfl (by decide) rfl q1092 rfl rfl fV rfl rfl d_Ma_planStep_110 (fun s_30 H locs h hP hD hS => ?_)
      refine lv_goto (tgt := 267) G.1 G.2.1 d_Ma_planStep_113 (by decide) ?_
      exact J_267 s_30 v2 x_6 H locs h hP hD hS ls (lv_sub hl [4, 6, 0] rfl)
  · skip
    have h := h.2 c57
    refine lv_aload_n G.1 G.2.1 d_Ma_planStep_60 rfl (lv_at hl 4 rfl) ?_
    refine ugf (v := .ref (ad (lk a0 1))) G hP h_a0 iMa rfl 1 (by decide) rfl q1067 rfl rfl d_Ma_planStep_61 ?_
    refine W.eq (g2 := F0 m 64 ls [.ref (ad (lk a0 1))]) rfl ?_
    refine lv_aload_n G.1 G.2.1 d_Ma_planStep_64 rfl (lv_at hl 5 rfl) ?_
    refine lv_iconst (v := 0) G.1 G.2.1 d_Ma_planStep_65 (by decide) ?_
    refine ucVl (As := [.int 0]) (rest := [.ref (ad (lk a0 1))]) G hP hD hS (cu_Ru_fromTop l D g ad y _ s_5 a1 0 H.size h_a1 h) w9_Ru_fromTop q1841 ⟨Nat.le_of_ble_eq_true rfl, Nat.le_of_ble_eq_true rfl⟩ rfl rfl h_a1 (q := (RRu, TRu, 19)) rfl rfl hl.1 rfl (Nat.le_of_ble_eq_true rfl) rfl ⟨Nat.le_refl _, Nat.le_refl _⟩ d_Ma_planStep_66 (fun r_31 s_32 H locs h hP hD hS => ?_)
    refine lv_l2i G.1 G.2.1 d_Ma_planStep_69 rfl ?_
    refine lv_iload_n G.1 G.2.1 d_Ma_planStep_70 rfl (lv_at hl 6 rfl) ?_
    refine ucVi (As := [.int r_31.toInt32, .int v2]) (rest := []) G hP hD hS (cu_Hp_lockedByOther l D g ad y _ s_32 (lk a0 1) r_31.toInt32 v2 H.size (lk_4_1 h_a0) h) w9_Hp_lockedByOther q1845 ⟨Nat.le_of_ble_eq_true rfl, Nat.le_of_ble_eq_true rfl⟩ rfl rfl (lk_4_1 h_a0) (q := (RHp, THp, 15)) rfl rfl hl.1 rfl (Nat.le_of_ble_eq_true rfl) rfl ⟨Nat.le_refl _, Nat.le_refl _⟩ d_Ma_planStep_71 (fun r_33 s_34 H locs h hP hD hS => ?_)
    have J_83 : ∀ (s_j83 : St) (z0j83 : Int32) (H : Heap) (locs : List Loc), wj_Ma_planStep_83 y Post a0 a1 s_j83 z0j83 → va_P D CL (ws g ad y s_j83) H → va_D A (ws g ad y s_j83) → va_S A s.heap H locs → ∀ ls, lv_has ls 8 [] → W p l e ru_Ma_planStep s m args below meth c H locs 0 0 Q (F0 m 83 ls [.int z0j83]) := by
      intro s_j83 z0j83 H locs h hP hD hS ls hl
      unfold wj_Ma_planStep_83 at h
      exact hret _ _ _ _ _ _ _ ls h hP hD hS (Nat.le_refl _) (Nat.le_refl _) d_Ma_planStep_83
    refine lv_if_eq (tgt := 81) G.1 G.2.1 d_Ma_planStep_74 (by decide) (fun c74 => ?_) (fun c74 => ?_)
    · skip
      have h := h.1 c74
      refine lv_bipush (v := 7) G.1 G.2.1 d_Ma_planStep_81 (by decide) ?_
      exact J_83 s_34 7 H locs h hP hD hS ls (lv_sub hl [] rfl)
    · skip
      have h := h.2 c74
      refine lv_iconst (v := 0) G.1 G.2.1 d_Ma_planStep_77 (by decide) ?_
      refine lv_goto (tgt := 83) G.1 G.2.1 d_Ma_planStep_78 (by decide) ?_
      exact J_83 s_34 0 H locs h hP hD hS ls (lv_sub hl [] rfl)
theorem q1793 : Cond.methodLink "ClassWorks$Machine" 151 y_Ru_startIsOpen ∈ lw_ok := lw_okmem (List.mem_of_getElem? (i := 1793) (by decide +kernel)) rfl
theorem q1796 : Cond.code y_Ru_startIsOpen b_Ru_startIsOpen 1 (some (.boolean)) ∈ lw_ok := lw_okmem (List.mem_of_getElem? (i := 1796) (by decide +kernel)) rfl
theorem q1794 : Cond.instanceMethod y_Ru_startIsOpen ∈ lw_ok := lw_okmem (List.mem_of_getElem? (i := 1794) (by decide +kernel)) rfl
theorem q1795 : Cond.selects y_Ru_startIsOpen.cls y_Ru_startIsOpen y_Ru_startIsOpen ∈ lw_ok := lw_okmem (List.mem_of_getElem? (i := 1795) (by decide +kernel)) rfl
theorem w9_Ru_startIsOpen : CWv y_Ru_startIsOpen b_Ru_startIsOpen 1 (some (.boolean)) 0 ∧ Cond.instanceMethod y_Ru_startIsOpen ∈ lw_ok ∧ Cond.selects y_Ru_startIsOpen.cls y_Ru_startIsOpen y_Ru_startIsOpen ∈ lw_ok := ⟨⟨q1796, q347, by decide +kernel, by decide +kernel, by decide +kernel⟩, q1794, q1795⟩
theorem q1833 : Cond.methodLink "ClassWorks$Machine" 164 y_Ma_planStep ∈ lw_ok := lw_okmem (List.mem_of_getElem? (i := 1833) (by decide +kernel)) rfl
theorem q1836 : Cond.code y_Ma_planStep b_Ma_planStep 8 (some .int) ∈ lw_ok := lw_okmem (List.mem_of_getElem? (i := 1836) (by decide +kernel)) rfl
theorem q1835 : Cond.instanceMethod y_Ma_planStep ∈ lw_ok := lw_okmem (List.mem_of_getElem? (i := 1835) (by decide +kernel)) rfl
theorem q85 : Cond.selects y_Ma_planStep.cls y_Ma_planStep y_Ma_planStep ∈ lw_ok := lw_okmem (List.mem_of_getElem? (i := 85) (by decide +kernel)) rfl
theorem w9_Ma_planStep : CWv y_Ma_planStep b_Ma_planStep 8 (some .int) 2 ∧ Cond.instanceMethod y_Ma_planStep ∈ lw_ok ∧ Cond.selects y_Ma_planStep.cls y_Ma_planStep y_Ma_planStep ∈ lw_ok := ⟨⟨q1836, q344, by decide +kernel, by decide +kernel, by decide +kernel⟩, q1835, q85⟩
theorem q1812 : Cond.methodLink "ClassWorks$Machine" 161 y_Ma_planRun ∈ lw_ok := lw_okmem (List.mem_of_getElem? (i := 1812) (by decide +kernel)) rfl
theorem q1815 : Cond.code y_Ma_planRun b_Ma_planRun 3 (some .int) ∈ lw_ok := lw_okmem (List.mem_of_getElem? (i := 1815) (by decide +kernel)) rfl
theorem q1814 : Cond.instanceMethod y_Ma_planRun ∈ lw_ok := lw_okmem (List.mem_of_getElem? (i := 1814) (by decide +kernel)) rfl
theorem q82 : Cond.selects y_Ma_planRun.cls y_Ma_planRun y_Ma_planRun ∈ lw_ok := lw_okmem (List.mem_of_getElem? (i := 82) (by decide +kernel)) rfl
theorem w9_Ma_planRun : CWv y_Ma_planRun b_Ma_planRun 3 (some .int) 2 ∧ Cond.instanceMethod y_Ma_planRun ∈ lw_ok ∧ Cond.selects y_Ma_planRun.cls y_Ma_planRun y_Ma_planRun ∈ lw_ok := ⟨⟨q1815, q344, by decide +kernel, by decide +kernel, by decide +kernel⟩, q1814, q82⟩
theorem q1797 : Cond.methodLink "ClassWorks$Machine" 154 y_Ma_planStart ∈ lw_ok := lw_okmem (List.mem_of_getElem? (i := 1797) (by decide +kernel)) rfl
theorem q1800 : Cond.code y_Ma_planStart b_Ma_planStart 6 (some .int) ∈ lw_ok := lw_okmem (List.mem_of_getElem? (i := 1800) (by decide +kernel)) rfl
theorem q1799 : Cond.instanceMethod y_Ma_planStart ∈ lw_ok := lw_okmem (List.mem_of_getElem? (i := 1799) (by decide +kernel)) rfl
theorem q80 : Cond.selects y_Ma_planStart.cls y_Ma_planStart y_Ma_planStart ∈ lw_ok := lw_okmem (List.mem_of_getElem? (i := 80) (by decide +kernel)) rfl
theorem w9_Ma_planStart : CWv y_Ma_planStart b_Ma_planStart 6 (some .int) 2 ∧ Cond.instanceMethod y_Ma_planStart ∈ lw_ok ∧ Cond.selects y_Ma_planStart.cls y_Ma_planStart y_Ma_planStart ∈ lw_ok := ⟨⟨q1800, q344, by decide +kernel, by decide +kernel, by decide +kernel⟩, q1799, q80⟩
def y_Ma_plan : MethodName := ⟨"ClassWorks$Machine", "plan", "(I)I"⟩
abbrev b_Ma_plan : ByteArray := prog_6_method_10_code
theorem d_Ma_plan_0 : decode b_Ma_plan 0 = .ok (.aload_n 0, 1) := by decide +kernel
theorem d_Ma_plan_1 : decode b_Ma_plan 1 = .ok (.getfield 20, 3) := by decide +kernel
theorem d_Ma_plan_4 : decode b_Ma_plan 4 = .ok (.iload_n 1, 1) := by decide +kernel
theorem d_Ma_plan_5 : decode b_Ma_plan 5 = .ok (.aaload, 1) := by decide +kernel
theorem d_Ma_plan_6 : decode b_Ma_plan 6 = .ok (.astore_n 2, 1) := by decide +kernel
theorem d_Ma_plan_7 : decode b_Ma_plan 7 = .ok (.aload_n 0, 1) := by decide +kernel
theorem d_Ma_plan_8 : decode b_Ma_plan 8 = .ok (.iconst 0, 1) := by decide +kernel
theorem d_Ma_plan_9 : decode b_Ma_plan 9 = .ok (.putfield 60, 3) := by decide +kernel
theorem d_Ma_plan_12 : decode b_Ma_plan 12 = .ok (.aload_n 2, 1) := by decide +kernel
theorem d_Ma_plan_13 : decode b_Ma_plan 13 = .ok (.invokevirtual 151, 3) := by decide +kernel
theorem d_Ma_plan_16 : decode b_Ma_plan 16 = .ok (.ifCond .eq 10, 3) := by decide +kernel
theorem d_Ma_plan_19 : decode b_Ma_plan 19 = .ok (.aload_n 0, 1) := by decide +kernel
theorem d_Ma_plan_20 : decode b_Ma_plan 20 = .ok (.aload_n 2, 1) := by decide +kernel
theorem d_Ma_plan_21 : decode b_Ma_plan 21 = .ok (.iload_n 1, 1) := by decide +kernel
theorem d_Ma_plan_22 : decode b_Ma_plan 22 = .ok (.invokevirtual 154, 3) := by decide +kernel
theorem d_Ma_plan_25 : decode b_Ma_plan 25 = .ok (.ireturn, 1) := by decide +kernel
theorem d_Ma_plan_26 : decode b_Ma_plan 26 = .ok (.aload_n 2, 1) := by decide +kernel
theorem d_Ma_plan_27 : decode b_Ma_plan 27 = .ok (.getfield 158, 3) := by decide +kernel
theorem d_Ma_plan_30 : decode b_Ma_plan 30 = .ok (.ifCond .ne 12, 3) := by decide +kernel
theorem d_Ma_plan_33 : decode b_Ma_plan 33 = .ok (.aload_n 0, 1) := by decide +kernel
theorem d_Ma_plan_34 : decode b_Ma_plan 34 = .ok (.aload_n 2, 1) := by decide +kernel
theorem d_Ma_plan_35 : decode b_Ma_plan 35 = .ok (.iload_n 1, 1) := by decide +kernel
theorem d_Ma_plan_36 : decode b_Ma_plan 36 = .ok (.invokevirtual 161, 3) := by decide +kernel
theorem d_Ma_plan_39 : decode b_Ma_plan 39 = .ok (.goto 9, 3) := by decide +kernel
theorem d_Ma_plan_42 : decode b_Ma_plan 42 = .ok (.aload_n 0, 1) := by decide +kernel
theorem d_Ma_plan_43 : decode b_Ma_plan 43 = .ok (.aload_n 2, 1) := by decide +kernel
theorem d_Ma_plan_44 : decode b_Ma_plan 44 = .ok (.iload_n 1, 1) := by decide +kernel
theorem d_Ma_plan_45 : decode b_Ma_plan 45 = .ok (.invokevirtual 164, 3) := by decide +kernel
theorem d_Ma_plan_48 : decode b_Ma_plan 48 = .ok (.ireturn, 1) := by decide +kernel
abbrev ru_Ma_plan : Room := { frames := 4, cells := 0, slots := 0, locals := 112 }
def wj_Ma_plan_48 (y : Ly) (Post : St → Int32 → Prop) (a0 : Nat) (s_j48 : St) (z0j48 : Int32) : Prop := Post s_j48 z0j48
def wu_Ma_plan (y : Ly) (Post : St → Int32 → Prop) (σ : St) (a0 : Nat) (v1 : Int32) : Prop := xQ y a0 2 v1 (fun b_1 : Nat => xP (uV σ a0 16 0) (fun s_3 : St => wu_Ru_startIsOpen y (fun (s_5 : St) (r_4 : Int32) => ((r_4 = 0 → ((¬ (sV s_5 b_1 10) = 0 → wu_Ma_planStep y (fun (s_7 : St) (r_6 : Int32) => wj_Ma_plan_48 y Post a0 s_7 r_6) s_5 a0 b_1 v1) ∧ ((sV s_5 b_1 10) = 0 → wu_Ma_planRun y (fun (s_9 : St) (r_8 : Int32) => wj_Ma_plan_48 y Post a0 s_9 r_8) s_5 a0 b_1 v1))) ∧ (¬ (r_4 = 0) → wu_Ma_planStart y (fun (s_11 : St) (r_10 : Int32) => Post s_11 r_10) s_5 a0 b_1 v1))) s_3 b_1))
set_option maxHeartbeats 4000000 in
set_option maxRecDepth 100000 in
theorem cu_Ma_plan (l : Launch) (D : va_G) (g : Nat → ClassId) (ad : Nat → Nat) (y : Ly) (Post : St → Int32 → Prop) (σ : St) (a0 : Nat) (v1 : Int32) (sz : Nat) (h_a0 : cl a0 = 4) (h : wu_Ma_plan y Post σ a0 v1) : Met l y_Ma_plan (mw y_Ma_plan b_Ma_plan 3 (some .int)) ru_Ma_plan (PC g D [] [.ref (ad a0), .int v1] sz (ws g ad y σ)) (va_Qi (fun (r : Int32) (u : St) => Post u r) (QW D (va_A (ws g ad y σ) sz) (fun u => ws g ad y u)) (va_A (ws g ad y σ) sz)) 0 0 (va_A (ws g ad y σ) sz) := by
  refine ofI (by decide +kernel) (Nat.le_of_ble_eq_true rfl) ?_
  intro p e s m args below meth c A Q ls H locs G hsz hP hD hS hl hret
  subst hsz
  have hl : lv_has ls 3 [(0, .ref (ad a0)), (1, .int v1)] := hl
  unfold wu_Ma_plan at h
  refine lv_aload_n G.1 G.2.1 d_Ma_plan_0 rfl (lv_at hl 0 rfl) ?_
  refine ugf (v := .ref (yP y a0 2)) G hP h_a0 iMa rfl 2 (by decide) rfl q1069 rfl rfl d_Ma_plan_1 ?_
  refine lv_iload_n G.1 G.2.1 d_Ma_plan_4 rfl (lv_at hl 1 rfl) ?_
  refine uqald G hP (kdp h_a0 rfl) (typ h_a0 rfl) rfl h d_Ma_plan_5 (fun b_1 n_2 h => ?_)
  refine lv_astore_n (lv' := [(2, .ref (ad b_1)), (0, .ref (ad a0)), (1, .int v1)]) G.1 G.2.1 d_Ma_plan_6 rfl hl (by decide) rfl (fun ls hl => ?_)
  refine lv_aload_n G.1 G.2.1 d_Ma_plan_7 rfl (lv_at hl 1 rfl) ?_
  refine lv_iconst (v := 0) G.1 G.2.1 d_Ma_plan_8 (by decide) ?_
  refine upf G hP hD hS h 16 putV h_a0 iMa tMa tMa_ok nMa rfl (by decide) rfl q1092 rfl rfl fV rfl rfl d_Ma_plan_9 (fun s_3 H locs h hP hD hS => ?_)
  refine lv_aload_n G.1 G.2.1 d_Ma_plan_12 rfl (lv_at hl 0 rfl) ?_
  refine ucVi (As := []) (rest := []) G hP hD hS (cu_Ru_startIsOpen l D g ad y _ s_3 b_1 H.size (oa_4 h_a0 n_2) h) w9_Ru_startIsOpen q1793 ⟨Nat.le_of_ble_eq_true rfl, Nat.le_of_ble_eq_true rfl⟩ rfl rfl (oa_4 h_a0 n_2) (q := (RRu, TRu, 19)) rfl rfl hl.1 rfl (Nat.le_of_ble_eq_true rfl) rfl ⟨Nat.le_refl _, Nat.le_refl _⟩ d_Ma_plan_13 (fun r_4 s_5 H locs h hP hD hS => ?_)
  refine lv_if_eq (tgt := 26) G.1 G.2.1 d_Ma_plan_16 (by decide) (fun c16 => ?_) (fun c16 => ?_)
  · skip
    have h := h.1 c16
    refine W.eq (g2 := F0 m 26 ls []) rfl ?_
    refine lv_aload_n G.1 G.2.1 d_Ma_plan_26 rfl (lv_at hl 0 rfl) ?_
    refine ugf (v := .int (sV s_5 b_1 10)) G hP (oa_4 h_a0 n_2) iRu rfl 10 (by decide) rfl q1006 rfl rfl d_Ma_plan_27 ?_
    have J_48 : ∀ (s_j48 : St) (z0j48 : Int32) (H : Heap) (locs : List Loc), wj_Ma_plan_48 y Post a0 s_j48 z0j48 → va_P D CL (ws g ad y s_j48) H → va_D A (ws g ad y s_j48) → va_S A s.heap H locs → ∀ ls, lv_has ls 3 [] → W p l e ru_Ma_plan s m args below meth c H locs 0 0 Q (F0 m 48 ls [.int z0j48]) := by
      intro s_j48 z0j48 H locs h hP hD hS ls hl
      unfold wj_Ma_plan_48 at h
      exact hret _ _ _ _ _ _ _ ls h hP hD hS (Nat.le_refl _) (Nat.le_refl _) d_Ma_plan_48
    refine lv_if_ne (tgt := 42) G.1 G.2.1 d_Ma_plan_30 (by decide) (fun c30 => ?_) (fun c30 => ?_)
    · skip
      have h := h.1 c30
      refine lv_aload_n G.1 G.2.1 d_Ma_plan_42 rfl (lv_at hl 1 rfl) ?_
      refine lv_aload_n G.1 G.2.1 d_Ma_plan_43 rfl (lv_at hl 0 rfl) ?_
      refine lv_iload_n G.1 G.2.1 d_Ma_plan_44 rfl (lv_at hl 2 rfl) ?_
      refine ucVi (As := [.ref (ad b_1), .int v1]) (rest := []) G hP hD hS (cu_Ma_planStep l D g ad y _ s_5 a0 b_1 v1 H.size h_a0 (oa_4 h_a0 n_2) h) w9_Ma_planStep q1833 ⟨Nat.le_of_ble_eq_true rfl, Nat.le_of_ble_eq_true rfl⟩ rfl rfl h_a0 (q := (RMa, TMa, 19)) rfl rfl hl.1 rfl (Nat.le_of_ble_eq_true rfl) rfl ⟨Nat.le_refl _, Nat.le_refl _⟩ d_Ma_plan_45 (fun r_6 s_7 H locs h hP hD hS => ?_)
      exact J_48 s_7 r_6 H locs h hP hD hS ls (lv_sub hl [] rfl)
    · skip
      have h := h.2 c30
      refine lv_aload_n G.1 G.2.1 d_Ma_plan_33 rfl (lv_at hl 1 rfl) ?_
      refine lv_aload_n G.1 G.2.1 d_Ma_plan_34 rfl (lv_at hl 0 rfl) ?_
      refine lv_iload_n G.1 G.2.1 d_Ma_plan_35 rfl (lv_at hl 2 rfl) ?_
      refine ucVi (As := [.ref (ad b_1), .int v1]) (rest := []) G hP hD hS (cu_Ma_planRun l D g ad y _ s_5 a0 b_1 v1 H.size h_a0 (oa_4 h_a0 n_2) h) w9_Ma_planRun q1812 ⟨Nat.le_of_ble_eq_true rfl, Nat.le_of_ble_eq_true rfl⟩ rfl rfl h_a0 (q := (RMa, TMa, 19)) rfl rfl hl.1 rfl (Nat.le_of_ble_eq_true rfl) rfl ⟨Nat.le_refl _, Nat.le_refl _⟩ d_Ma_plan_36 (fun r_8 s_9 H locs h hP hD hS => ?_)
      refine lv_goto (tgt := 48) G.1 G.2.1 d_Ma_plan_39 (by decide) ?_
      exact J_48 s_9 r_8 H locs h hP hD hS ls (lv_sub hl [] rfl)
  · skip
    have h := h.2 c16
    refine W.eq (g2 := F0 m 19 ls []) rfl ?_
    refine lv_aload_n G.1 G.2.1 d_Ma_plan_19 rfl (lv_at hl 1 rfl) ?_
    refine lv_aload_n G.1 G.2.1 d_Ma_plan_20 rfl (lv_at hl 0 rfl) ?_
    refine lv_iload_n G.1 G.2.1 d_Ma_plan_21 rfl (lv_at hl 2 rfl) ?_
    refine ucVi (As := [.ref (ad b_1), .int v1]) (rest := []) G hP hD hS (cu_Ma_planStart l D g ad y _ s_5 a0 b_1 v1 H.size h_a0 (oa_4 h_a0 n_2) h) w9_Ma_planStart q1797 ⟨Nat.le_of_ble_eq_true rfl, Nat.le_of_ble_eq_true rfl⟩ rfl rfl h_a0 (q := (RMa, TMa, 19)) rfl rfl hl.1 rfl (Nat.le_of_ble_eq_true rfl) rfl ⟨Nat.le_refl _, Nat.le_refl _⟩ d_Ma_plan_22 (fun r_10 s_11 H locs h hP hD hS => ?_)
    exact hret _ _ _ _ _ _ _ ls h hP hD hS (Nat.le_refl _) (Nat.le_refl _) d_Ma_plan_25
def y_Fi_isFound : MethodName := ⟨"ClassWorks$Finder", "isFound", "(LClassWorks$World;I)Z"⟩
abbrev b_Fi_isFound : ByteArray := prog_3_method_17_code
theorem d_Fi_isFound_0 : decode b_Fi_isFound 0 = .ok (.aload_n 1, 1) := by decide +kernel
theorem d_Fi_isFound_1 : decode b_Fi_isFound 1 = .ok (.aload_n 0, 1) := by decide +kernel
theorem d_Fi_isFound_2 : decode b_Fi_isFound 2 = .ok (.getfield 9, 3) := by decide +kernel
theorem d_Fi_isFound_5 : decode b_Fi_isFound 5 = .ok (.aload_n 0, 1) := by decide +kernel
theorem d_Fi_isFound_6 : decode b_Fi_isFound 6 = .ok (.getfield 15, 3) := by decide +kernel
theorem d_Fi_isFound_9 : decode b_Fi_isFound 9 = .ok (.iconst 1, 1) := by decide +kernel
theorem d_Fi_isFound_10 : decode b_Fi_isFound 10 = .ok (.invokevirtual 100, 3) := by decide +kernel
theorem d_Fi_isFound_13 : decode b_Fi_isFound 13 = .ok (.iload_n 2, 1) := by decide +kernel
theorem d_Fi_isFound_14 : decode b_Fi_isFound 14 = .ok (.iand, 1) := by decide +kernel
theorem d_Fi_isFound_15 : decode b_Fi_isFound 15 = .ok (.ifCond .eq 7, 3) := by decide +kernel
theorem d_Fi_isFound_18 : decode b_Fi_isFound 18 = .ok (.iconst 1, 1) := by decide +kernel
theorem d_Fi_isFound_19 : decode b_Fi_isFound 19 = .ok (.goto 4, 3) := by decide +kernel
theorem d_Fi_isFound_22 : decode b_Fi_isFound 22 = .ok (.iconst 0, 1) := by decide +kernel
theorem d_Fi_isFound_23 : decode b_Fi_isFound 23 = .ok (.ireturn, 1) := by decide +kernel
abbrev ru_Fi_isFound : Room := { frames := 1, cells := 0, slots := 0, locals := 23 }
def wj_Fi_isFound_23 (y : Ly) (Post : St → Int32 → Prop) (a0 : Nat) (a1 : Nat) (s_j23 : St) (z0j23 : Int32) : Prop := (nb z0j23 ∧ Post s_j23 z0j23)
def wu_Fi_isFound (y : Ly) (Post : St → Int32 → Prop) (σ : St) (a0 : Nat) (a1 : Nat) (v2 : Int32) : Prop := wu_Wd_method y (fun (s_2 : St) (r_1 : Int32) => (((r_1 &&& v2) = 0 → wj_Fi_isFound_23 y Post a0 a1 s_2 0) ∧ (¬ ((r_1 &&& v2) = 0) → wj_Fi_isFound_23 y Post a0 a1 s_2 1))) σ a1 (sV σ a0 0) (sV σ a0 1) 1
set_option maxHeartbeats 4000000 in
set_option maxRecDepth 100000 in
theorem cu_Fi_isFound (l : Launch) (D : va_G) (g : Nat → ClassId) (ad : Nat → Nat) (y : Ly) (Post : St → Int32 → Prop) (σ : St) (a0 : Nat) (a1 : Nat) (v2 : Int32) (sz : Nat) (h_a0 : cl a0 = 1) (h_a1 : cl a1 = 9) (h : wu_Fi_isFound y Post σ a0 a1 v2) : Met l y_Fi_isFound (mw y_Fi_isFound b_Fi_isFound 3 (some (.boolean))) ru_Fi_isFound (PC g D [] [.ref (ad a0), .ref (ad a1), .int v2] sz (ws g ad y σ)) (va_Qi (fun (r : Int32) (u : St) => Post u r) (QW D (va_A (ws g ad y σ) sz) (fun u => ws g ad y u)) (va_A (ws g ad y σ) sz)) 0 0 (va_A (ws g ad y σ) sz) := by
  refine ofZ (by decide +kernel) (Nat.le_of_ble_eq_true rfl) ?_
  intro p e s m args below meth c A Q ls H locs G hsz hP hD hS hl hret
  subst hsz
  have hl : lv_has ls 3 [(0, .ref (ad a0)), (1, .ref (ad a1)), (2, .int v2)] := hl
  unfold wu_Fi_isFound at h
  refine lv_aload_n G.1 G.2.1 d_Fi_isFound_0 rfl (lv_at hl 1 rfl) ?_
  refine lv_aload_n G.1 G.2.1 d_Fi_isFound_1 rfl (lv_at hl 0 rfl) ?_
  refine ugf (v := .int (sV σ a0 0)) G hP h_a0 iFi rfl 0 (by decide) rfl q726 rfl rfl d_Fi_isFound_2 ?_
  refine lv_aload_n G.1 G.2.1 d_Fi_isFound_5 rfl (lv_at hl 0 rfl) ?_
  refine ugf (v := .int (sV σ a0 1)) G hP h_a0 iFi rfl 1 (by decide) rfl q729 rfl rfl d_Fi_isFound_6 ?_
  refine lv_iconst (v := 1) G.1 G.2.1 d_Fi_isFound_9 (by decide) ?_
  refine ucVi (As := [.int (sV σ a0 0), .int (sV σ a0 1), .int 1]) (rest := []) G hP hD hS (cu_Wd_method l D g ad y _ σ a1 (sV σ a0 0) (sV σ a0 1) 1 H.size h_a1 h) w9_Wd_method q1568 ⟨Nat.le_of_ble_eq_true rfl, Nat.le_of_ble_eq_true rfl⟩ rfl rfl h_a1 (q := (RWd, TWd, 17)) rfl rfl hl.1 rfl (Nat.le_of_ble_eq_true rfl) rfl ⟨Nat.le_refl _, Nat.le_refl _⟩ d_Fi_isFound_10 (fun r_1 s_2 H locs h hP hD hS => ?_)
  refine lv_iload_n G.1 G.2.1 d_Fi_isFound_13 rfl (lv_at hl 2 rfl) ?_
  refine lv_iand G.1 G.2.1 d_Fi_isFound_14 ?_
  have J_23 : ∀ (s_j23 : St) (z0j23 : Int32) (H : Heap) (locs : List Loc), wj_Fi_isFound_23 y Post a0 a1 s_j23 z0j23 → va_P D CL (ws g ad y s_j23) H → va_D A (ws g ad y s_j23) → va_S A s.heap H locs → ∀ ls, lv_has ls 3 [] → W p l e ru_Fi_isFound s m args below meth c H locs 0 0 Q (F0 m 23 ls [.int z0j23]) := by
    intro s_j23 z0j23 H locs h hP hD hS ls hl
    unfold wj_Fi_isFound_23 at h
    exact hret _ _ _ _ _ _ _ ls (nb_n h.1) h.2 hP hD hS (Nat.le_refl _) (Nat.le_refl _) d_Fi_isFound_23
  refine lv_if_eq (tgt := 22) G.1 G.2.1 d_Fi_isFound_15 (by decide) (fun c15 => ?_) (fun c15 => ?_)
  · skip
    have h := h.1 c15
    refine lv_iconst (v := 0) G.1 G.2.1 d_Fi_isFound_22 (by decide) ?_
    exact J_23 s_2 0 H locs h hP hD hS ls (lv_sub hl [] rfl)
  · skip
    have h := h.2 c15
    refine lv_iconst (v := 1) G.1 G.2.1 d_Fi_isFound_18 (by decide) ?_
    refine W.eq (g2 := F0 m 19 ls [.int 1]) rfl ?_
    refine lv_goto (tgt := 23) G.1 G.2.1 d_Fi_isFound_19 (by decide) ?_
    exact J_23 s_2 1 H locs h hP hD hS ls (lv_sub hl [] rfl)
def y_Hp_classOf : MethodName := ⟨"ClassWorks$Heap", "classOf", "(I)I"⟩
abbrev b_Hp_classOf : ByteArray := prog_4_method_6_code
theorem d_Hp_classOf_0 : decode b_Hp_classOf 0 = .ok (.iload_n 1, 1) := by decide +kernel
theorem d_Hp_classOf_1 : decode b_Hp_classOf 1 = .ok (.sipush 1000, 3) := by decide +kernel
theorem d_Hp_classOf_4 : decode b_Hp_classOf 4 = .ok (.isub, 1) := by decide +kernel
theorem d_Hp_classOf_5 : decode b_Hp_classOf 5 = .ok (.iconst 1, 1) := by decide +kernel
theorem d_Hp_classOf_6 : decode b_Hp_classOf 6 = .ok (.isub, 1) := by decide +kernel
theorem d_Hp_classOf_7 : decode b_Hp_classOf 7 = .ok (.istore_n 2, 1) := by decide +kernel
theorem d_Hp_classOf_8 : decode b_Hp_classOf 8 = .ok (.iload_n 2, 1) := by decide +kernel
theorem d_Hp_classOf_9 : decode b_Hp_classOf 9 = .ok (.ifCond .lt 31, 3) := by decide +kernel
theorem d_Hp_classOf_12 : decode b_Hp_classOf 12 = .ok (.iload_n 2, 1) := by decide +kernel
theorem d_Hp_classOf_13 : decode b_Hp_classOf 13 = .ok (.aload_n 0, 1) := by decide +kernel
theorem d_Hp_classOf_14 : decode b_Hp_classOf 14 = .ok (.getfield 48, 3) := by decide +kernel
theorem d_Hp_classOf_17 : decode b_Hp_classOf 17 = .ok (.getfield 71, 3) := by decide +kernel
theorem d_Hp_classOf_20 : decode b_Hp_classOf 20 = .ok (.if_icmp .ge 18, 3) := by decide +kernel
theorem d_Hp_classOf_23 : decode b_Hp_classOf 23 = .ok (.aload_n 0, 1) := by decide +kernel
theorem d_Hp_classOf_24 : decode b_Hp_classOf 24 = .ok (.getfield 48, 3) := by decide +kernel
theorem d_Hp_classOf_27 : decode b_Hp_classOf 27 = .ok (.getfield 84, 3) := by decide +kernel
theorem d_Hp_classOf_30 : decode b_Hp_classOf 30 = .ok (.iload_n 2, 1) := by decide +kernel
theorem d_Hp_classOf_31 : decode b_Hp_classOf 31 = .ok (.iaload, 1) := by decide +kernel
theorem d_Hp_classOf_32 : decode b_Hp_classOf 32 = .ok (.bipush 100, 2) := by decide +kernel
theorem d_Hp_classOf_34 : decode b_Hp_classOf 34 = .ok (.irem, 1) := by decide +kernel
theorem d_Hp_classOf_35 : decode b_Hp_classOf 35 = .ok (.goto 4, 3) := by decide +kernel
theorem d_Hp_classOf_38 : decode b_Hp_classOf 38 = .ok (.iconst 0, 1) := by decide +kernel
theorem d_Hp_classOf_39 : decode b_Hp_classOf 39 = .ok (.ireturn, 1) := by decide +kernel
theorem d_Hp_classOf_40 : decode b_Hp_classOf 40 = .ok (.iload_n 1, 1) := by decide +kernel
theorem d_Hp_classOf_41 : decode b_Hp_classOf 41 = .ok (.iconst 1, 1) := by decide +kernel
theorem d_Hp_classOf_42 : decode b_Hp_classOf 42 = .ok (.if_icmp .lt 19, 3) := by decide +kernel
theorem d_Hp_classOf_45 : decode b_Hp_classOf 45 = .ok (.iload_n 1, 1) := by decide +kernel
theorem d_Hp_classOf_46 : decode b_Hp_classOf 46 = .ok (.sipush 800, 3) := by decide +kernel
theorem d_Hp_classOf_49 : decode b_Hp_classOf 49 = .ok (.if_icmp .gt 12, 3) := by decide +kernel
theorem d_Hp_classOf_52 : decode b_Hp_classOf 52 = .ok (.aload_n 0, 1) := by decide +kernel
theorem d_Hp_classOf_53 : decode b_Hp_classOf 53 = .ok (.getfield 9, 3) := by decide +kernel
theorem d_Hp_classOf_56 : decode b_Hp_classOf 56 = .ok (.iload_n 1, 1) := by decide +kernel
theorem d_Hp_classOf_57 : decode b_Hp_classOf 57 = .ok (.iaload, 1) := by decide +kernel
theorem d_Hp_classOf_58 : decode b_Hp_classOf 58 = .ok (.goto 4, 3) := by decide +kernel
theorem d_Hp_classOf_61 : decode b_Hp_classOf 61 = .ok (.iconst (-1), 1) := by decide +kernel
theorem d_Hp_classOf_62 : decode b_Hp_classOf 62 = .ok (.ireturn, 1) := by decide +kernel
abbrev ru_Hp_classOf : Room := { frames := 0, cells := 0, slots := 0, locals := 0 }
def wj_Hp_classOf_62 (y : Ly) (Post : St → Int32 → Prop) (a0 : Nat) (s_j62 : St) (z0j62 : Int32) : Prop := Post s_j62 z0j62
def wj_Hp_classOf_61 (y : Ly) (Post : St → Int32 → Prop) (a0 : Nat) (s_j61 : St) : Prop := wj_Hp_classOf_62 y Post a0 s_j61 (-1)
def wj_Hp_classOf_39 (y : Ly) (Post : St → Int32 → Prop) (a0 : Nat) (s_j39 : St) (z0j39 : Int32) : Prop := Post s_j39 z0j39
def wu_Hp_classOf (y : Ly) (Post : St → Int32 → Prop) (σ : St) (a0 : Nat) (v1 : Int32) : Prop := ((((v1 - 1000) - 1) < 0 → ((v1 < 1 → wj_Hp_classOf_61 y Post a0 σ) ∧ (¬ (v1 < 1) → ((800 < v1 → wj_Hp_classOf_61 y Post a0 σ) ∧ (¬ (800 < v1) → xA y σ a0 0 v1 (fun x_1 : Int32 => wj_Hp_classOf_62 y Post a0 σ x_1)))))) ∧ (¬ (((v1 - 1000) - 1) < 0) → (((sV σ (lk a0 10) 1) ≤ ((v1 - 1000) - 1) → wj_Hp_classOf_39 y Post a0 σ 0) ∧ (¬ ((sV σ (lk a0 10) 1) ≤ ((v1 - 1000) - 1)) → xA y σ (lk a0 10) 0 ((v1 - 1000) - 1) (fun x_2 : Int32 => wj_Hp_classOf_39 y Post a0 σ (x_2 - x_2 / 100 * 100))))))
set_option maxHeartbeats 4000000 in
set_option maxRecDepth 100000 in
theorem cu_Hp_classOf (l : Launch) (D : va_G) (g : Nat → ClassId) (ad : Nat → Nat) (y : Ly) (Post : St → Int32 → Prop) (σ : St) (a0 : Nat) (v1 : Int32) (sz : Nat) (h_a0 : cl a0 = 2) (h : wu_Hp_classOf y Post σ a0 v1) : Met l y_Hp_classOf (mw y_Hp_classOf b_Hp_classOf 3 (some .int)) ru_Hp_classOf (PC g D [] [.ref (ad a0), .int v1] sz (ws g ad y σ)) (va_Qi (fun (r : Int32) (u : St) => Post u r) (QW D (va_A (ws g ad y σ) sz) (fun u => ws g ad y u)) (va_A (ws g ad y σ) sz)) 0 0 (va_A (ws g ad y σ) sz) := by
  refine ofI (by decide +kernel) (Nat.le_of_ble_eq_true rfl) ?_
  intro p e s m args below meth c A Q ls H locs G hsz hP hD hS hl hret
  subst hsz
  have hl : lv_has ls 3 [(0, .ref (ad a0)), (1, .int v1)] := hl
  unfold wu_Hp_classOf at h
  refine lv_iload_n G.1 G.2.1 d_Hp_classOf_0 rfl (lv_at hl 1 rfl) ?_
  refine lv_sipush (v := 1000) G.1 G.2.1 d_Hp_classOf_1 (by decide) ?_
  refine lv_isub G.1 G.2.1 d_Hp_classOf_4 ?_
  refine lv_iconst (v := 1) G.1 G.2.1 d_Hp_classOf_5 (by decide) ?_
  refine lv_isub G.1 G.2.1 d_Hp_classOf_6 ?_
  refine lv_istore_n (lv' := [(2, .int ((v1 - 1000) - 1)), (0, .ref (ad a0)), (1, .int v1)]) G.1 G.2.1 d_Hp_classOf_7 rfl hl (by decide) rfl (fun ls hl => ?_)
  refine lv_iload_n G.1 G.2.1 d_Hp_classOf_8 rfl (lv_at hl 0 rfl) ?_
  refine lv_if_lt (tgt := 40) G.1 G.2.1 d_Hp_classOf_9 (by decide) (fun c9 => ?_) (fun c9 => ?_)
  · skip
    have h := h.1 c9
    refine lv_iload_n G.1 G.2.1 d_Hp_classOf_40 rfl (lv_at hl 2 rfl) ?_
    refine lv_iconst (v := 1) G.1 G.2.1 d_Hp_classOf_41 (by decide) ?_
    have J_62 : ∀ (s_j62 : St) (z0j62 : Int32) (H : Heap) (locs : List Loc), wj_Hp_classOf_62 y Post a0 s_j62 z0j62 → va_P D CL (ws g ad y s_j62) H → va_D A (ws g ad y s_j62) → va_S A s.heap H locs → ∀ ls, lv_has ls 3 [] → W p l e ru_Hp_classOf s m args below meth c H locs 0 0 Q (F0 m 62 ls [.int z0j62]) := by
      intro s_j62 z0j62 H locs h hP hD hS ls hl
      unfold wj_Hp_classOf_62 at h
      exact hret _ _ _ _ _ _ _ ls h hP hD hS (Nat.le_refl _) (Nat.le_refl _) d_Hp_classOf_62
    have J_61 : ∀ (s_j61 : St) (H : Heap) (locs : List Loc), wj_Hp_classOf_61 y Post a0 s_j61 → va_P D CL (ws g ad y s_j61) H → va_D A (ws g ad y s_j61) → va_S A s.heap H locs → ∀ ls, lv_has ls 3 [] → W p l e ru_Hp_classOf s m args below meth c H locs 0 0 Q (F0 m 61 ls []) := by
      intro s_j61 H locs h hP hD hS ls hl
      unfold wj_Hp_classOf_61 at h
      refine lv_iconst (v := (-1)) G.1 G.2.1 d_Hp_classOf_61 (by decide) ?_
      exact J_62 s_j61 (-1) H locs h hP hD hS ls (lv_sub hl [] rfl)
    refine lv_icmp_lt (tgt := 61) G.1 G.2.1 d_Hp_classOf_42 (by decide) (fun c42 => ?_) (fun c42 => ?_)
    · skip
      have h := h.1 c42
      exact J_61 σ H locs h hP hD hS ls (lv_sub hl [] rfl)
    · skip
      have h := h.2 c42
      refine W.eq (g2 := F0 m 45 ls []) rfl ?_
      refine lv_iload_n G.1 G.2.1 d_Hp_classOf_45 rfl (lv_at hl 2 rfl) ?_
      refine lv_sipush (v := 800) G.1 G.2.1 d_Hp_classOf_46 (by decide) ?_
      refine lv_icmp_gt (tgt := 61) G.1 G.2.1 d_Hp_classOf_49 (by decide) (fun c49 => ?_) (fun c49 => ?_)
      · skip
        have h := h.1 c49
        exact J_61 σ H locs h hP hD hS ls (lv_sub hl [] rfl)
      · skip
        have h := h.2 c49
        refine lv_aload_n G.1 G.2.1 d_Hp_classOf_52 rfl (lv_at hl 1 rfl) ?_
        refine ugf (v := .ref (yP y a0 0)) G hP h_a0 iHp rfl 0 (by decide) rfl q913 rfl rfl d_Hp_classOf_53 ?_
        refine lv_iload_n G.1 G.2.1 d_Hp_classOf_56 rfl (lv_at hl 2 rfl) ?_
        refine uiald G hP (kdp h_a0 rfl) (typ h_a0 rfl) h d_Hp_classOf_57 (fun x_1 h => ?_)
        refine lv_goto (tgt := 62) G.1 G.2.1 d_Hp_classOf_58 (by decide) ?_
        exact J_62 σ x_1 H locs h hP hD hS ls (lv_sub hl [] rfl)
  · skip
    have h := h.2 c9
    refine lv_iload_n G.1 G.2.1 d_Hp_classOf_12 rfl (lv_at hl 0 rfl) ?_
    refine lv_aload_n G.1 G.2.1 d_Hp_classOf_13 rfl (lv_at hl 1 rfl) ?_
    refine ugf (v := .ref (ad (lk a0 10))) G hP h_a0 iHp rfl 10 (by decide) rfl q931 rfl rfl d_Hp_classOf_14 ?_
    refine W.eq (g2 := F0 m 17 ls [.ref (ad (lk a0 10)), .int ((v1 - 1000) - 1)]) rfl ?_
    refine ugf (v := .int (sV σ (lk a0 10) 1)) G hP (lk_2_10 h_a0) iIn rfl 1 (by decide) rfl q392 rfl rfl d_Hp_classOf_17 ?_
    have J_39 : ∀ (s_j39 : St) (z0j39 : Int32) (H : Heap) (locs : List Loc), wj_Hp_classOf_39 y Post a0 s_j39 z0j39 → va_P D CL (ws g ad y s_j39) H → va_D A (ws g ad y s_j39) → va_S A s.heap H locs → ∀ ls, lv_has ls 3 [] → W p l e ru_Hp_classOf s m args below meth c H locs 0 0 Q (F0 m 39 ls [.int z0j39]) := by
      intro s_j39 z0j39 H locs h hP hD hS ls hl
      unfold wj_Hp_classOf_39 at h
      exact hret _ _ _ _ _ _ _ ls h hP hD hS (Nat.le_refl _) (Nat.le_refl _) d_Hp_classOf_39
    refine lv_icmp_ge (tgt := 38) G.1 G.2.1 d_Hp_classOf_20 (by decide) (fun c20 => ?_) (fun c20 => ?_)
    · skip
      have h := h.1 c20
      refine lv_iconst (v := 0) G.1 G.2.1 d_Hp_classOf_38 (by decide) ?_
      exact J_39 σ 0 H locs h hP hD hS ls (lv_sub hl [] rfl)
    · skip
      have h := h.2 c20
      refine lv_aload_n G.1 G.2.1 d_Hp_classOf_23 rfl (lv_at hl 1 rfl) ?_
      refine ugf (v := .ref (ad (lk a0 10))) G hP h_a0 iHp rfl 10 (by decide) rfl q931 rfl rfl d_Hp_classOf_24 ?_
      refine ugf (v := .ref (yP y (lk a0 10) 0)) G hP (lk_2_10 h_a0) iIn rfl 0 (by decide) rfl q382 rfl rfl d_Hp_classOf_27 ?_
      refine lv_iload_n G.1 G.2.1 d_Hp_classOf_30 rfl (lv_at hl 0 rfl) ?_
      refine uiald G hP (kdp (lk_2_10 h_a0) rfl) (typ (lk_2_10 h_a0) rfl) h d_Hp_classOf_31 (fun x_2 h => ?_)
      refine lv_bipush (v := 100) G.1 G.2.1 d_Hp_classOf_32 (by decide) ?_
      refine lv_irem G.1 G.2.1 d_Hp_classOf_34 (by decide) ?_
      refine lv_goto (tgt := 39) G.1 G.2.1 d_Hp_classOf_35 (by decide) ?_
      exact J_39 σ (x_2 - x_2 / 100 * 100) H locs h hP hD hS ls (lv_sub hl [] rfl)
def y_Wd_below : MethodName := ⟨"ClassWorks$World", "below", "(II)Z"⟩
abbrev b_Wd_below : ByteArray := prog_11_method_23_code
theorem q833 : Cond.fieldLink "ClassWorks$World" 32 "ClassWorks$World" "above" "[J" ∈ lw_ok := lw_okmem (List.mem_of_getElem? (i := 833) (by decide +kernel)) rfl
theorem d_Wd_below_0 : decode b_Wd_below 0 = .ok (.aload_n 0, 1) := by decide +kernel
theorem d_Wd_below_1 : decode b_Wd_below 1 = .ok (.getfield 32, 3) := by decide +kernel
theorem d_Wd_below_4 : decode b_Wd_below 4 = .ok (.iload_n 1, 1) := by decide +kernel
theorem d_Wd_below_5 : decode b_Wd_below 5 = .ok (.laload, 1) := by decide +kernel
theorem d_Wd_below_6 : decode b_Wd_below 6 = .ok (.iload_n 2, 1) := by decide +kernel
theorem d_Wd_below_7 : decode b_Wd_below 7 = .ok (.lshr, 1) := by decide +kernel
theorem d_Wd_below_8 : decode b_Wd_below 8 = .ok (.lconst 1, 1) := by decide +kernel
theorem d_Wd_below_9 : decode b_Wd_below 9 = .ok (.land, 1) := by decide +kernel
theorem d_Wd_below_10 : decode b_Wd_below 10 = .ok (.lconst 0, 1) := by decide +kernel
theorem d_Wd_below_11 : decode b_Wd_below 11 = .ok (.lcmp, 1) := by decide +kernel
theorem d_Wd_below_12 : decode b_Wd_below 12 = .ok (.ifCond .eq 7, 3) := by decide +kernel
theorem d_Wd_below_15 : decode b_Wd_below 15 = .ok (.iconst 1, 1) := by decide +kernel
theorem d_Wd_below_16 : decode b_Wd_below 16 = .ok (.goto 4, 3) := by decide +kernel
theorem d_Wd_below_19 : decode b_Wd_below 19 = .ok (.iconst 0, 1) := by decide +kernel
theorem d_Wd_below_20 : decode b_Wd_below 20 = .ok (.ireturn, 1) := by decide +kernel
abbrev ru_Wd_below : Room := { frames := 0, cells := 0, slots := 0, locals := 0 }
def wj_Wd_below_20 (y : Ly) (Post : St → Int32 → Prop) (a0 : Nat) (s_j20 : St) (z0j20 : Int32) : Prop := (nb z0j20 ∧ Post s_j20 z0j20)
def wu_Wd_below (y : Ly) (Post : St → Int32 → Prop) (σ : St) (a0 : Nat) (v1 : Int32) (v2 : Int32) : Prop := xB y σ a0 7 v1 (fun x_1 : Int64 => (((lg_cmp ((x_1 >>> (v2.toInt64 &&& 63)) &&& 1) 0) = 0 → wj_Wd_below_20 y Post a0 σ 0) ∧ (¬ ((lg_cmp ((x_1 >>> (v2.toInt64 &&& 63)) &&& 1) 0) = 0) → wj_Wd_below_20 y Post a0 σ 1)))
set_option maxHeartbeats 4000000 in
set_option maxRecDepth 100000 in
theorem cu_Wd_below (l : Launch) (D : va_G) (g : Nat → ClassId) (ad : Nat → Nat) (y : Ly) (Post : St → Int32 → Prop) (σ : St) (a0 : Nat) (v1 : Int32) (v2 : Int32) (sz : Nat) (h_a0 : cl a0 = 9) (h : wu_Wd_below y Post σ a0 v1 v2) : Met l y_Wd_below (mw y_Wd_below b_Wd_below 3 (some (.boolean))) ru_Wd_below (PC g D [] [.ref (ad a0), .int v1, .int v2] sz (ws g ad y σ)) (va_Qi (fun (r : Int32) (u : St) => Post u r) (QW D (va_A (ws g ad y σ) sz) (fun u => ws g ad y u)) (va_A (ws g ad y σ) sz)) 0 0 (va_A (ws g ad y σ) sz) := by
  refine ofZ (by decide +kernel) (Nat.le_of_ble_eq_true rfl) ?_
  intro p e s m args below meth c A Q ls H locs G hsz hP hD hS hl hret
  subst hsz
  have hl : lv_has ls 3 [(0, .ref (ad a0)), (1, .int v1), (2, .int v2)] := hl
  unfold wu_Wd_below at h
  refine lv_aload_n G.1 G.2.1 d_Wd_below_0 rfl (lv_at hl 0 rfl) ?_
  refine ugf (v := .ref (yP y a0 7)) G hP h_a0 iWd rfl 7 (by decide) rfl q833 rfl rfl d_Wd_below_1 ?_
  refine lv_iload_n G.1 G.2.1 d_Wd_below_4 rfl (lv_at hl 1 rfl) ?_
  refine ulald G hP (kdp h_a0 rfl) (typ h_a0 rfl) h d_Wd_below_5 (fun x_1 h => ?_)
  refine lv_iload_n G.1 G.2.1 d_Wd_below_6 rfl (lv_at hl 2 rfl) ?_
  refine lv_lshr G.1 G.2.1 d_Wd_below_7 rfl ?_
  refine lv_lconst (v := 1) G.1 G.2.1 d_Wd_below_8 (by decide) ?_
  refine lv_land G.1 G.2.1 d_Wd_below_9 ?_
  refine lv_lconst (v := 0) G.1 G.2.1 d_Wd_below_10 (by decide) ?_
  refine W.lcmp G.1 G.2.1 d_Wd_below_11 ?_
  have J_20 : ∀ (s_j20 : St) (z0j20 : Int32) (H : Heap) (locs : List Loc), wj_Wd_below_20 y Post a0 s_j20 z0j20 → va_P D CL (ws g ad y s_j20) H → va_D A (ws g ad y s_j20) → va_S A s.heap H locs → ∀ ls, lv_has ls 3 [] → W p l e ru_Wd_below s m args below meth c H locs 0 0 Q (F0 m 20 ls [.int z0j20]) := by
    intro s_j20 z0j20 H locs h hP hD hS ls hl
    unfold wj_Wd_below_20 at h
    exact hret _ _ _ _ _ _ _ ls (nb_n h.1) h.2 hP hD hS (Nat.le_refl _) (Nat.le_refl _) d_Wd_below_20
  refine lv_if_eq (tgt := 19) G.1 G.2.1 d_Wd_below_12 (by decide) (fun c12 => ?_) (fun c12 => ?_)
  · skip
    have h := h.1 c12
    refine W.eq (g2 := F0 m 19 ls []) rfl ?_
    refine lv_iconst (v := 0) G.1 G.2.1 d_Wd_below_19 (by decide) ?_
    exact J_20 σ 0 H locs h hP hD hS ls (lv_sub hl [] rfl)
  · skip
    have h := h.2 c12
    refine W.eq (g2 := F0 m 15 ls []) rfl ?_
    refine lv_iconst (v := 1) G.1 G.2.1 d_Wd_below_15 (by decide) ?_
    refine lv_goto (tgt := 20) G.1 G.2.1 d_Wd_below_16 (by decide) ?_
    exact J_20 σ 1 H locs h hP hD hS ls (lv_sub hl [] rfl)
def y_Fi_seekForObject : MethodName := ⟨"ClassWorks$Finder", "seekForObject", "(LClassWorks$World;II)Z"⟩
abbrev b_Fi_seekForObject : ByteArray := prog_3_method_20_code
theorem d_Fi_seekForObject_0 : decode b_Fi_seekForObject 0 = .ok (.iload_n 2, 1) := by decide +kernel
theorem d_Fi_seekForObject_1 : decode b_Fi_seekForObject 1 = .ok (.istore 4, 2) := by decide +kernel
theorem d_Fi_seekForObject_3 : decode b_Fi_seekForObject 3 = .ok (.iconst 0, 1) := by decide +kernel
theorem d_Fi_seekForObject_4 : decode b_Fi_seekForObject 4 = .ok (.istore 5, 2) := by decide +kernel
theorem d_Fi_seekForObject_6 : decode b_Fi_seekForObject 6 = .ok (.iload 5, 2) := by decide +kernel
theorem d_Fi_seekForObject_8 : decode b_Fi_seekForObject 8 = .ok (.bipush 51, 2) := by decide +kernel
theorem d_Fi_seekForObject_10 : decode b_Fi_seekForObject 10 = .ok (.if_icmp .ge 64, 3) := by decide +kernel
theorem d_Fi_seekForObject_13 : decode b_Fi_seekForObject 13 = .ok (.iload 4, 2) := by decide +kernel
theorem d_Fi_seekForObject_15 : decode b_Fi_seekForObject 15 = .ok (.ifCond .lt 59, 3) := by decide +kernel
theorem d_Fi_seekForObject_18 : decode b_Fi_seekForObject 18 = .ok (.aload_n 0, 1) := by decide +kernel
theorem d_Fi_seekForObject_19 : decode b_Fi_seekForObject 19 = .ok (.iload 4, 2) := by decide +kernel
theorem d_Fi_seekForObject_21 : decode b_Fi_seekForObject 21 = .ok (.putfield 9, 3) := by decide +kernel
theorem d_Fi_seekForObject_24 : decode b_Fi_seekForObject 24 = .ok (.aload_n 0, 1) := by decide +kernel
theorem d_Fi_seekForObject_25 : decode b_Fi_seekForObject 25 = .ok (.aload_n 1, 1) := by decide +kernel
theorem d_Fi_seekForObject_26 : decode b_Fi_seekForObject 26 = .ok (.iload 4, 2) := by decide +kernel
theorem d_Fi_seekForObject_28 : decode b_Fi_seekForObject 28 = .ok (.iload_n 3, 1) := by decide +kernel
theorem d_Fi_seekForObject_29 : decode b_Fi_seekForObject 29 = .ok (.invokevirtual 112, 3) := by decide +kernel
theorem d_Fi_seekForObject_32 : decode b_Fi_seekForObject 32 = .ok (.putfield 15, 3) := by decide +kernel
theorem d_Fi_seekForObject_35 : decode b_Fi_seekForObject 35 = .ok (.aload_n 0, 1) := by decide +kernel
theorem d_Fi_seekForObject_36 : decode b_Fi_seekForObject 36 = .ok (.getfield 15, 3) := by decide +kernel
theorem d_Fi_seekForObject_39 : decode b_Fi_seekForObject 39 = .ok (.ifCond .lt 21, 3) := by decide +kernel
theorem d_Fi_seekForObject_42 : decode b_Fi_seekForObject 42 = .ok (.aload_n 1, 1) := by decide +kernel
theorem d_Fi_seekForObject_43 : decode b_Fi_seekForObject 43 = .ok (.iload 4, 2) := by decide +kernel
theorem d_Fi_seekForObject_45 : decode b_Fi_seekForObject 45 = .ok (.aload_n 0, 1) := by decide +kernel
theorem d_Fi_seekForObject_46 : decode b_Fi_seekForObject 46 = .ok (.getfield 15, 3) := by decide +kernel
theorem d_Fi_seekForObject_49 : decode b_Fi_seekForObject 49 = .ok (.iconst 1, 1) := by decide +kernel
theorem d_Fi_seekForObject_50 : decode b_Fi_seekForObject 50 = .ok (.invokevirtual 100, 3) := by decide +kernel
theorem d_Fi_seekForObject_53 : decode b_Fi_seekForObject 53 = .ok (.iconst 5, 1) := by decide +kernel
theorem d_Fi_seekForObject_54 : decode b_Fi_seekForObject 54 = .ok (.iand, 1) := by decide +kernel
theorem d_Fi_seekForObject_55 : decode b_Fi_seekForObject 55 = .ok (.ifCond .ne 5, 3) := by decide +kernel
theorem d_Fi_seekForObject_58 : decode b_Fi_seekForObject 58 = .ok (.iconst 1, 1) := by decide +kernel
theorem d_Fi_seekForObject_59 : decode b_Fi_seekForObject 59 = .ok (.ireturn, 1) := by decide +kernel
theorem d_Fi_seekForObject_60 : decode b_Fi_seekForObject 60 = .ok (.aload_n 1, 1) := by decide +kernel
theorem d_Fi_seekForObject_61 : decode b_Fi_seekForObject 61 = .ok (.iload 4, 2) := by decide +kernel
theorem d_Fi_seekForObject_63 : decode b_Fi_seekForObject 63 = .ok (.invokevirtual 109, 3) := by decide +kernel
theorem d_Fi_seekForObject_66 : decode b_Fi_seekForObject 66 = .ok (.istore 4, 2) := by decide +kernel
theorem d_Fi_seekForObject_68 : decode b_Fi_seekForObject 68 = .ok (.iinc 5 1, 3) := by decide +kernel
theorem d_Fi_seekForObject_71 : decode b_Fi_seekForObject 71 = .ok (.goto (-65), 3) := by decide +kernel
theorem d_Fi_seekForObject_74 : decode b_Fi_seekForObject 74 = .ok (.iconst 0, 1) := by decide +kernel
theorem d_Fi_seekForObject_75 : decode b_Fi_seekForObject 75 = .ok (.ireturn, 1) := by decide +kernel
abbrev ru_Fi_seekForObject : Room := { frames := 1, cells := 0, slots := 0, locals := 25 }
def wj_Fi_seekForObject_74 (y : Ly) (Post : St → Int32 → Prop) (a0 : Nat) (a1 : Nat) (s_j74 : St) : Prop := (nb 0 ∧ Post s_j74 0)
def wj_Fi_seekForObject_60 (y : Ly) (Post : St → Int32 → Prop) (K_6 : St → Int32 → Int32 → Int32 → Prop) (a0 : Nat) (a1 : Nat) (s_j60 : St) (x3j60 : Int32) (x4j60 : Int32) (x5j60 : Int32) : Prop := wu_Wd_up y (fun (s_6 : St) (r_5 : Int32) => K_6 s_6 x3j60 r_5 (x5j60 + 1)) s_j60 a1 x4j60
def wb_Fi_seekForObject_6 (y : Ly) (Post : St → Int32 → Prop) (K_6 : St → Int32 → Int32 → Int32 → Prop) (a0 : Nat) (a1 : Nat) (s_h6 : St) (x3h6 : Int32) (x4h6 : Int32) (x5h6 : Int32) : Prop := ((51 ≤ x5h6 → wj_Fi_seekForObject_74 y Post a0 a1 s_h6) ∧ (¬ (51 ≤ x5h6) → ((x4h6 < 0 → wj_Fi_seekForObject_74 y Post a0 a1 s_h6) ∧ (¬ (x4h6 < 0) → xP (uV s_h6 a0 0 x4h6) (fun s_1 : St => wu_Wd_methodWith y (fun (s_3 : St) (r_2 : Int32) => xP (uV s_3 a0 1 r_2) (fun s_4 : St => (((sV s_4 a0 1) < 0 → wj_Fi_seekForObject_60 y Post K_6 a0 a1 s_4 x3h6 x4h6 x5h6) ∧ (¬ ((sV s_4 a0 1) < 0) → wu_Wd_method y (fun (s_8 : St) (r_7 : Int32) => ((¬ (r_7 &&& 5) = 0 → wj_Fi_seekForObject_60 y Post K_6 a0 a1 s_8 x3h6 x4h6 x5h6) ∧ ((r_7 &&& 5) = 0 → (nb 1 ∧ Post s_8 1)))) s_4 a1 x4h6 (sV s_4 a0 1) 1)))) s_1 a1 x4h6 x3h6)))))
def wl_Fi_seekForObject_6 (y : Ly) (Post : St → Int32 → Prop) (a0 : Nat) (a1 : Nat) (s_h6 : St) (x3h6 : Int32) (x4h6 : Int32) (x5h6 : Int32) : Prop := ∃ (I : St → Int32 → Int32 → Int32 → Prop) (μ : St → Int32 → Int32 → Int32 → Nat), I s_h6 x3h6 x4h6 x5h6 ∧ ∀ (u : St) (t0 : Int32) (t1 : Int32) (t2 : Int32), I u t0 t1 t2 → wb_Fi_seekForObject_6 y Post (fun z t0q t1q t2q => I z t0q t1q t2q ∧ μ z t0q t1q t2q < μ u t0 t1 t2) a0 a1 u t0 t1 t2
def wu_Fi_seekForObject (y : Ly) (Post : St → Int32 → Prop) (σ : St) (a0 : Nat) (a1 : Nat) (v2 : Int32) (v3 : Int32) : Prop := wl_Fi_seekForObject_6 y Post a0 a1 σ v3 v2 0
set_option maxHeartbeats 4000000 in
set_option maxRecDepth 100000 in
theorem cu_Fi_seekForObject (l : Launch) (D : va_G) (g : Nat → ClassId) (ad : Nat → Nat) (y : Ly) (Post : St → Int32 → Prop) (σ : St) (a0 : Nat) (a1 : Nat) (v2 : Int32) (v3 : Int32) (sz : Nat) (h_a0 : cl a0 = 1) (h_a1 : cl a1 = 9) (h : wu_Fi_seekForObject y Post σ a0 a1 v2 v3) : Met l y_Fi_seekForObject (mw y_Fi_seekForObject b_Fi_seekForObject 6 (some (.boolean))) ru_Fi_seekForObject (PC g D [] [.ref (ad a0), .ref (ad a1), .int v2, .int v3] sz (ws g ad y σ)) (va_Qi (fun (r : Int32) (u : St) => Post u r) (QW D (va_A (ws g ad y σ) sz) (fun u => ws g ad y u)) (va_A (ws g ad y σ) sz)) 0 0 (va_A (ws g ad y σ) sz) := by
  refine ofZ (by decide +kernel) (Nat.le_of_ble_eq_true rfl) ?_
  intro p e s m args below meth c A Q ls H locs G hsz hP hD hS hl hret
  subst hsz
  have hl : lv_has ls 6 [(0, .ref (ad a0)), (1, .ref (ad a1)), (2, .int v2), (3, .int v3)] := hl
  unfold wu_Fi_seekForObject at h
  refine lv_iload_n G.1 G.2.1 d_Fi_seekForObject_0 rfl (lv_at hl 2 rfl) ?_
  refine lv_istore (lv' := [(4, .int v2), (0, .ref (ad a0)), (1, .ref (ad a1)), (2, .int v2), (3, .int v3)]) G.1 G.2.1 d_Fi_seekForObject_1 hl (by decide) rfl (fun ls hl => ?_)
  refine lv_iconst (v := 0) G.1 G.2.1 d_Fi_seekForObject_3 (by decide) ?_
  refine lv_istore (lv' := [(5, .int 0), (4, .int v2), (0, .ref (ad a0)), (1, .ref (ad a1)), (2, .int v2), (3, .int v3)]) G.1 G.2.1 d_Fi_seekForObject_4 hl (by decide) rfl (fun ls hl => ?_)
  unfold wl_Fi_seekForObject_6 at h
  obtain ⟨I_6, μ_6, hI_6, hB_6⟩ := h
  have L_6 : ∀ (n_6 : Nat) (s_h6 : St) (x3h6 : Int32) (x4h6 : Int32) (x5h6 : Int32), μ_6 s_h6 x3h6 x4h6 x5h6 < n_6 → I_6 s_h6 x3h6 x4h6 x5h6 → ∀ (H : Heap) (locs : List Loc), va_P D CL (ws g ad y s_h6) H → va_D A (ws g ad y s_h6) → va_S A s.heap H locs → ∀ ls, lv_has ls 6 [(0, .ref (ad a0)), (1, .ref (ad a1)), (3, .int x3h6), (4, .int x4h6), (5, .int x5h6)] → W p l e ru_Fi_seekForObject s m args below meth c H locs 0 0 Q (F0 m 6 ls []) := by
    intro n_6
    induction n_6 with
    | zero => intro s_h6 x3h6 x4h6 x5h6 hμ; exact absurd hμ (Nat.not_lt_zero _)
    | succ n_6 ih_6 =>
      intro s_h6 x3h6 x4h6 x5h6 hμ_6 hJ H locs hP hD hS ls hl
      obtain ⟨K_6, hK_6, h⟩ : ∃ K : St → Int32 → Int32 → Int32 → Prop, (∀ z (t0 : Int32) (t1 : Int32) (t2 : Int32), K z t0 t1 t2 → I_6 z t0 t1 t2 ∧ μ_6 z t0 t1 t2 < μ_6 s_h6 x3h6 x4h6 x5h6) ∧ wb_Fi_seekForObject_6 y Post K a0 a1 s_h6 x3h6 x4h6 x5h6 := ⟨_, fun _ _ _ _ h => h, hB_6 s_h6 x3h6 x4h6 x5h6 hJ⟩
      unfold wb_Fi_seekForObject_6 at h
      refine lv_iload G.1 G.2.1 d_Fi_seekForObject_6 (lv_at hl 4 rfl) ?_
      refine lv_bipush (v := 51) G.1 G.2.1 d_Fi_seekForObject_8 (by decide) ?_
      have J_74 : ∀ (s_j74 : St) (H : Heap) (locs : List Loc), wj_Fi_seekForObject_74 y Post a0 a1 s_j74 → va_P D CL (ws g ad y s_j74) H → va_D A (ws g ad y s_j74) → va_S A s.heap H locs → ∀ ls, lv_has ls 6 [] → W p l e ru_Fi_seekForObject s m args below meth c H locs 0 0 Q (F0 m 74 ls []) := by
        intro s_j74 H locs h hP hD hS ls hl
        unfold wj_Fi_seekForObject_74 at h
        refine lv_iconst (v := 0) G.1 G.2.1 d_Fi_seekForObject_74 (by decide) ?_
        exact hret _ _ _ _ _ _ _ ls (nb_n h.1) h.2 hP hD hS (Nat.le_refl _) (Nat.le_refl _) d_Fi_seekForObject_75
      refine lv_icmp_ge (tgt := 74) G.1 G.2.1 d_Fi_seekForObject_10 (by decide) (fun c10 => ?_) (fun c10 => ?_)
      · skip
        have h := h.1 c10
        exact J_74 s_h6 H locs h hP hD hS ls (lv_sub hl [] rfl)
      · skip
        have h := h.2 c10
        refine lv_iload G.1 G.2.1 d_Fi_seekForObject_13 (lv_at hl 3 rfl) ?_
        refine lv_if_lt (tgt := 74) G.1 G.2.1 d_Fi_seekForObject_15 (by decide) (fun c15 => ?_) (fun c15 => ?_)
        · skip
          have h := h.1 c15
          exact J_74 s_h6 H locs h hP hD hS ls (lv_sub hl [] rfl)
        · skip
          have h := h.2 c15
          refine lv_aload_n G.1 G.2.1 d_Fi_seekForObject_18 rfl (lv_at hl 0 rfl) ?_
          refine lv_iload G.1 G.2.1 d_Fi_seekForObject_19 (lv_at hl 3 rfl) ?_
          refine upf G hP hD hS h 0 putV h_a0 iFi tFi tFi_ok nFi rfl (by decide) rfl q726 rfl rfl fV rfl rfl d_Fi_seekForObject_21 (fun s_1 H locs h hP hD hS => ?_)
          refine lv_aload_n G.1 G.2.1 d_Fi_seekForObject_24 rfl (lv_at hl 0 rfl) ?_
          refine lv_aload_n G.1 G.2.1 d_Fi_seekForObject_25 rfl (lv_at hl 1 rfl) ?_
          refine lv_iload G.1 G.2.1 d_Fi_seekForObject_26 (lv_at hl 3 rfl) ?_
          refine W.eq (g2 := F0 m 28 ls [.int x4h6, .ref (ad a1), .ref (ad a0)]) rfl ?_
          refine lv_iload_n G.1 G.2.1 d_Fi_seekForObject_28 rfl (lv_at hl 2 rfl) ?_
          refine ucVi (As := [.int x4h6, .int x3h6]) (rest := [.ref (ad a0)]) G hP hD hS (cu_Wd_methodWith l D g ad y _ s_1 a1 x4h6 x3h6 H.size h_a1 h) w9_Wd_methodWith q1571 ⟨Nat.le_of_ble_eq_true rfl, Nat.le_of_ble_eq_true rfl⟩ rfl rfl h_a1 (q := (RWd, TWd, 17)) rfl rfl hl.1 rfl (Nat.le_of_ble_eq_true rfl) rfl ⟨Nat.le_refl _, Nat.le_refl _⟩ d_Fi_seekForObject_29 (fun r_2 s_3 H locs h hP hD hS => ?_)
          refine upf G hP hD hS h 1 putV h_a0 iFi tFi tFi_ok nFi rfl (by decide) rfl q729 rfl rfl fV rfl rfl d_Fi_seekForObject_32 (fun s_4 H locs h hP hD hS => ?_)
          refine lv_aload_n G.1 G.2.1 d_Fi_seekForObject_35 rfl (lv_at hl 0 rfl) ?_
          refine ugf (v := .int (sV s_4 a0 1)) G hP h_a0 iFi rfl 1 (by decide) rfl q729 rfl rfl d_Fi_seekForObject_36 ?_
          have J_60 : ∀ (s_j60 : St) (x3j60 : Int32) (x4j60 : Int32) (x5j60 : Int32) (H : Heap) (locs : List Loc), wj_Fi_seekForObject_60 y Post K_6 a0 a1 s_j60 x3j60 x4j60 x5j60 → va_P D CL (ws g ad y s_j60) H → va_D A (ws g ad y s_j60) → va_S A s.heap H locs → ∀ ls, lv_has ls 6 [(0, .ref (ad a0)), (1, .ref (ad a1)), (3, .int x3j60), (4, .int x4j60), (5, .int x5j60)] → W p l e ru_Fi_seekForObject s m args below meth c H locs 0 0 Q (F0 m 60 ls []) := by
            intro s_j60 x3j60 x4j60 x5j60 H locs h hP hD hS ls hl
            unfold wj_Fi_seekForObject_60 at h
            refine lv_aload_n G.1 G.2.1 d_Fi_seekForObject_60 rfl (lv_at hl 1 rfl) ?_
            refine lv_iload G.1 G.2.1 d_Fi_seekForObject_61 (lv_at hl 3 rfl) ?_
            refine ucVi (As := [.int x4j60]) (rest := []) G hP hD hS (cu_Wd_up l D g ad y _ s_j60 a1 x4j60 H.size h_a1 h) w9_Wd_up q1570 ⟨Nat.le_of_ble_eq_true rfl, Nat.le_of_ble_eq_true rfl⟩ rfl rfl h_a1 (q := (RWd, TWd, 17)) rfl rfl hl.1 rfl (Nat.le_of_ble_eq_true rfl) rfl ⟨Nat.le_refl _, Nat.le_refl _⟩ d_Fi_seekForObject_63 (fun r_5 s_6 H locs h hP hD hS => ?_)
            refine lv_istore (lv' := [(4, .int r_5), (0, .ref (ad a0)), (1, .ref (ad a1)), (3, .int x3j60), (5, .int x5j60)]) G.1 G.2.1 d_Fi_seekForObject_66 hl (by decide) rfl (fun ls hl => ?_)
            refine lv_iinc (v := x5j60 + 1) (lv' := [(5, .int (x5j60 + 1)), (4, .int r_5), (0, .ref (ad a0)), (1, .ref (ad a1)), (3, .int x3j60)]) G.1 G.2.1 d_Fi_seekForObject_68 hl (k := 4) rfl rfl (by decide) rfl (fun ls hl => ?_)
            refine lv_goto (tgt := 6) G.1 G.2.1 d_Fi_seekForObject_71 (by decide) ?_
            have h := hK_6 s_6 x3j60 r_5 (x5j60 + 1) h
            exact ih_6 s_6 x3j60 r_5 (x5j60 + 1) (Nat.lt_of_lt_of_le h.2 (Nat.le_of_lt_succ hμ_6)) h.1 H locs hP hD hS ls (lv_sub hl [2, 3, 4, 1, 0] rfl)
          refine lv_if_lt (tgt := 60) G.1 G.2.1 d_Fi_seekForObject_39 (by decide) (fun c39 => ?_) (fun c39 => ?_)
          · skip
            have h := h.1 c39
            exact J_60 s_4 x3h6 x4h6 x5h6 H locs h hP hD hS ls (lv_sub hl [0, 1, 2, 3, 4] rfl)
          · skip
            have h := h.2 c39
            refine lv_aload_n G.1 G.2.1 d_Fi_seekForObject_42 rfl (lv_at hl 1 rfl) ?_
            refine lv_iload G.1 G.2.1 d_Fi_seekForObject_43 (lv_at hl 3 rfl) ?_
            refine lv_aload_n G.1 G.2.1 d_Fi_seekForObject_45 rfl (lv_at hl 0 rfl) ?_
            refine ugf (v := .int (sV s_4 a0 1)) G hP h_a0 iFi rfl 1 (by decide) rfl q729 rfl rfl d_Fi_seekForObject_46 ?_
            refine lv_iconst (v := 1) G.1 G.2.1 d_Fi_seekForObject_49 (by decide) ?_
            refine ucVi (As := [.int x4h6, .int (sV s_4 a0 1), .int 1]) (rest := []) G hP hD hS (cu_Wd_method l D g ad y _ s_4 a1 x4h6 (sV s_4 a0 1) 1 H.size h_a1 h) w9_Wd_method q1568 ⟨Nat.le_of_ble_eq_true rfl, Nat.le_of_ble_eq_true rfl⟩ rfl rfl h_a1 (q := (RWd, TWd, 17)) rfl rfl hl.1 rfl (Nat.le_of_ble_eq_true rfl) rfl ⟨Nat.le_refl _, Nat.le_refl _⟩ d_Fi_seekForObject_50 (fun r_7 s_8 H locs h hP hD hS => ?_)
            refine W.eq (g2 := F0 m 53 ls [.int r_7]) rfl ?_
            refine lv_iconst (v := 5) G.1 G.2.1 d_Fi_seekForObject_53 (by decide) ?_
            refine lv_iand G.1 G.2.1 d_Fi_seekForObject_54 ?_
            refine lv_if_ne (tgt := 60) G.1 G.2.1 d_Fi_seekForObject_55 (by decide) (fun c55 => ?_) (fun c55 => ?_)
            · skip
              have h := h.1 c55
              exact J_60 s_8 x3h6 x4h6 x5h6 H locs h hP hD hS ls (lv_sub hl [0, 1, 2, 3, 4] rfl)
            · skip
              have h := h.2 c55
              refine lv_iconst (v := 1) G.1 G.2.1 d_Fi_seekForObject_58 (by decide) ?_
              exact hret _ _ _ _ _ _ _ ls (nb_n h.1) h.2 hP hD hS (Nat.le_refl _) (Nat.le_refl _) d_Fi_seekForObject_59
  exact L_6 _ σ v3 v2 0 (Nat.lt_succ_self _) hI_6 H locs hP hD hS ls (lv_sub hl [2, 3, 5, 1, 0] rfl)
def y_Ru_pop : MethodName := ⟨"ClassWorks$Runner", "pop", "()J"⟩
abbrev b_Ru_pop : ByteArray := prog_9_method_10_code
theorem d_Ru_pop_0 : decode b_Ru_pop 0 = .ok (.aload_n 0, 1) := by decide +kernel
theorem d_Ru_pop_1 : decode b_Ru_pop 1 = .ok (.getfield 56, 3) := by decide +kernel
theorem d_Ru_pop_4 : decode b_Ru_pop 4 = .ok (.aload_n 0, 1) := by decide +kernel
theorem d_Ru_pop_5 : decode b_Ru_pop 5 = .ok (.getfield 44, 3) := by decide +kernel
theorem d_Ru_pop_8 : decode b_Ru_pop 8 = .ok (.iconst 1, 1) := by decide +kernel
theorem d_Ru_pop_9 : decode b_Ru_pop 9 = .ok (.isub, 1) := by decide +kernel
theorem d_Ru_pop_10 : decode b_Ru_pop 10 = .ok (.dup2, 1) := by decide +kernel
theorem d_Ru_pop_11 : decode b_Ru_pop 11 = .ok (.iaload, 1) := by decide +kernel
theorem d_Ru_pop_12 : decode b_Ru_pop 12 = .ok (.iconst 1, 1) := by decide +kernel
theorem d_Ru_pop_13 : decode b_Ru_pop 13 = .ok (.isub, 1) := by decide +kernel
theorem d_Ru_pop_14 : decode b_Ru_pop 14 = .ok (.iastore, 1) := by decide +kernel
theorem d_Ru_pop_15 : decode b_Ru_pop 15 = .ok (.aload_n 0, 1) := by decide +kernel
theorem d_Ru_pop_16 : decode b_Ru_pop 16 = .ok (.getfield 59, 3) := by decide +kernel
theorem d_Ru_pop_19 : decode b_Ru_pop 19 = .ok (.aload_n 0, 1) := by decide +kernel
theorem d_Ru_pop_20 : decode b_Ru_pop 20 = .ok (.getfield 44, 3) := by decide +kernel
theorem d_Ru_pop_23 : decode b_Ru_pop 23 = .ok (.iconst 1, 1) := by decide +kernel
theorem d_Ru_pop_24 : decode b_Ru_pop 24 = .ok (.isub, 1) := by decide +kernel
theorem d_Ru_pop_25 : decode b_Ru_pop 25 = .ok (.bipush 40, 2) := by decide +kernel
theorem d_Ru_pop_27 : decode b_Ru_pop 27 = .ok (.imul, 1) := by decide +kernel
theorem d_Ru_pop_28 : decode b_Ru_pop 28 = .ok (.bipush 20, 2) := by decide +kernel
theorem d_Ru_pop_30 : decode b_Ru_pop 30 = .ok (.iadd, 1) := by decide +kernel
theorem d_Ru_pop_31 : decode b_Ru_pop 31 = .ok (.aload_n 0, 1) := by decide +kernel
theorem d_Ru_pop_32 : decode b_Ru_pop 32 = .ok (.getfield 56, 3) := by decide +kernel
theorem d_Ru_pop_35 : decode b_Ru_pop 35 = .ok (.aload_n 0, 1) := by decide +kernel
theorem d_Ru_pop_36 : decode b_Ru_pop 36 = .ok (.getfield 44, 3) := by decide +kernel
theorem d_Ru_pop_39 : decode b_Ru_pop 39 = .ok (.iconst 1, 1) := by decide +kernel
theorem d_Ru_pop_40 : decode b_Ru_pop 40 = .ok (.isub, 1) := by decide +kernel
theorem d_Ru_pop_41 : decode b_Ru_pop 41 = .ok (.iaload, 1) := by decide +kernel
theorem d_Ru_pop_42 : decode b_Ru_pop 42 = .ok (.iadd, 1) := by decide +kernel
theorem d_Ru_pop_43 : decode b_Ru_pop 43 = .ok (.laload, 1) := by decide +kernel
theorem d_Ru_pop_44 : decode b_Ru_pop 44 = .ok (.lreturn, 1) := by decide +kernel
abbrev ru_Ru_pop : Room := { frames := 0, cells := 0, slots := 0, locals := 0 }
def wu_Ru_pop (y : Ly) (Post : St → Int64 → Prop) (σ : St) (a0 : Nat) : Prop := xA y σ a0 14 ((sV σ a0 10) - 1) (fun x_1 : Int32 => xS y σ a0 14 ((sV σ a0 10) - 1) (x_1 - 1) (fun s_2 : St => xA y s_2 a0 14 ((sV s_2 a0 10) - 1) (fun x_3 : Int32 => xB y s_2 a0 15 (((((sV s_2 a0 10) - 1) * 40) + 20) + x_3) (fun x_4 : Int64 => Post s_2 x_4))))
set_option maxHeartbeats 4000000 in
set_option maxRecDepth 100000 in
theorem cu_Ru_pop (l : Launch) (D : va_G) (g : Nat → ClassId) (ad : Nat → Nat) (y : Ly) (Post : St → Int64 → Prop) (σ : St) (a0 : Nat) (sz : Nat) (h_a0 : cl a0 = 7) (h : wu_Ru_pop y Post σ a0) : Met l y_Ru_pop (mw y_Ru_pop b_Ru_pop 1 (some (.long))) ru_Ru_pop (PC g D [] [.ref (ad a0)] sz (ws g ad y σ)) (va_Ql (fun (r : Int64) (u : St) => Post u r) (QW D (va_A (ws g ad y σ) sz) (fun u => ws g ad y u)) (va_A (ws g ad y σ) sz)) 0 0 (va_A (ws g ad y σ) sz) := by
  refine ofL (by decide +kernel) (Nat.le_of_ble_eq_true rfl) ?_
  intro p e s m args below meth c A Q ls H locs G hsz hP hD hS hl hret
  subst hsz
  have hl : lv_has ls 1 [(0, .ref (ad a0))] := hl
  unfold wu_Ru_pop at h
  refine lv_aload_n G.1 G.2.1 d_Ru_pop_0 rfl (lv_at hl 0 rfl) ?_
  refine ugf (v := .ref (yP y a0 14)) G hP h_a0 iRu rfl 14 (by decide) rfl q1017 rfl rfl d_Ru_pop_1 ?_
  refine lv_aload_n G.1 G.2.1 d_Ru_pop_4 rfl (lv_at hl 0 rfl) ?_
  refine ugf (v := .int (sV σ a0 10)) G hP h_a0 iRu rfl 10 (by decide) rfl q1005 rfl rfl d_Ru_pop_5 ?_
  refine lv_iconst (v := 1) G.1 G.2.1 d_Ru_pop_8 (by decide) ?_
  refine lv_isub G.1 G.2.1 d_Ru_pop_9 ?_
  refine lv_dup2_11 G.1 G.2.1 d_Ru_pop_10 rfl rfl ?_
  refine uiald G hP (kdp h_a0 rfl) (typ h_a0 rfl) h d_Ru_pop_11 (fun x_1 h => ?_)
  refine lv_iconst (v := 1) G.1 G.2.1 d_Ru_pop_12 (by decide) ?_
  refine lv_isub G.1 G.2.1 d_Ru_pop_13 ?_
  refine uiast G hP hD hS (kdp h_a0 rfl) (typ h_a0 rfl) h d_Ru_pop_14 (fun s_2 H locs h hP hD hS => ?_)
  refine W.eq (g2 := F0 m 15 ls []) rfl ?_
  refine lv_aload_n G.1 G.2.1 d_Ru_pop_15 rfl (lv_at hl 0 rfl) ?_
  refine ugf (v := .ref (yP y a0 15)) G hP h_a0 iRu rfl 15 (by decide) rfl q1020 rfl rfl d_Ru_pop_16 ?_
  refine lv_aload_n G.1 G.2.1 d_Ru_pop_19 rfl (lv_at hl 0 rfl) ?_
  refine ugf (v := .int (sV s_2 a0 10)) G hP h_a0 iRu rfl 10 (by decide) rfl q1005 rfl rfl d_Ru_pop_20 ?_
  refine lv_iconst (v := 1) G.1 G.2.1 d_Ru_pop_23 (by decide) ?_
  refine lv_isub G.1 G.2.1 d_Ru_pop_24 ?_
  refine lv_bipush (v := 40) G.1 G.2.1 d_Ru_pop_25 (by decide) ?_
  refine lv_imul G.1 G.2.1 d_Ru_pop_27 ?_
  refine lv_bipush (v := 20) G.1 G.2.1 d_Ru_pop_28 (by decide) ?_
  refine lv_iadd G.1 G.2.1 d_Ru_pop_30 ?_
  refine lv_aload_n G.1 G.2.1 d_Ru_pop_31 rfl (lv_at hl 0 rfl) ?_
  refine ugf (v := .ref (yP y a0 14)) G hP h_a0 iRu rfl 14 (by decide) rfl q1017 rfl rfl d_Ru_pop_32 ?_
  refine W.eq (g2 := F0 m 35 ls [.ref (yP y a0 14), .int ((((sV s_2 a0 10) - 1) * 40) + 20), .ref (yP y a0 15)]) rfl ?_
  refine lv_aload_n G.1 G.2.1 d_Ru_pop_35 rfl (lv_at hl 0 rfl) ?_
  refine ugf (v := .int (sV s_2 a0 10)) G hP h_a0 iRu rfl 10 (by decide) rfl q1005 rfl rfl d_Ru_pop_36 ?_
  refine lv_iconst (v := 1) G.1 G.2.1 d_Ru_pop_39 (by decide) ?_
  refine lv_isub G.1 G.2.1 d_Ru_pop_40 ?_
  refine uiald G hP (kdp h_a0 rfl) (typ h_a0 rfl) h d_Ru_pop_41 (fun x_3 h => ?_)
  refine lv_iadd G.1 G.2.1 d_Ru_pop_42 ?_
  refine ulald G hP (kdp h_a0 rfl) (typ h_a0 rfl) h d_Ru_pop_43 (fun x_4 h => ?_)
  exact hret _ _ _ _ _ _ _ ls h hP hD hS (Nat.le_refl _) (Nat.le_refl _) d_Ru_pop_44
def y_Ma_mark : MethodName := ⟨"ClassWorks$Machine", "mark", "(IIII)V"⟩
abbrev b_Ma_mark : ByteArray := prog_6_method_16_code
theorem q1073 : Cond.fieldLink "ClassWorks$Machine" 28 "ClassWorks$Machine" "traceRow" "[I" ∈ lw_ok := lw_okmem (List.mem_of_getElem? (i := 1073) (by decide +kernel)) rfl
theorem q989 : Cond.fieldLink "ClassWorks$Machine" 273 "ClassWorks$Runner" "steps" "I" ∈ lw_ok := lw_okmem (List.mem_of_getElem? (i := 989) (by decide +kernel)) rfl
theorem d_Ma_mark_0 : decode b_Ma_mark 0 = .ok (.aload_n 0, 1) := by decide +kernel
theorem d_Ma_mark_1 : decode b_Ma_mark 1 = .ok (.getfield 31, 3) := by decide +kernel
theorem d_Ma_mark_4 : decode b_Ma_mark 4 = .ok (.sipush 400, 3) := by decide +kernel
theorem d_Ma_mark_7 : decode b_Ma_mark 7 = .ok (.if_icmp .ge 78, 3) := by decide +kernel
theorem d_Ma_mark_10 : decode b_Ma_mark 10 = .ok (.aload_n 0, 1) := by decide +kernel
theorem d_Ma_mark_11 : decode b_Ma_mark 11 = .ok (.getfield 31, 3) := by decide +kernel
theorem d_Ma_mark_14 : decode b_Ma_mark 14 = .ok (.iconst 5, 1) := by decide +kernel
theorem d_Ma_mark_15 : decode b_Ma_mark 15 = .ok (.imul, 1) := by decide +kernel
theorem d_Ma_mark_16 : decode b_Ma_mark 16 = .ok (.istore 5, 2) := by decide +kernel
theorem d_Ma_mark_18 : decode b_Ma_mark 18 = .ok (.aload_n 0, 1) := by decide +kernel
theorem d_Ma_mark_19 : decode b_Ma_mark 19 = .ok (.getfield 28, 3) := by decide +kernel
theorem d_Ma_mark_22 : decode b_Ma_mark 22 = .ok (.iload 5, 2) := by decide +kernel
theorem d_Ma_mark_24 : decode b_Ma_mark 24 = .ok (.iload_n 1, 1) := by decide +kernel
theorem d_Ma_mark_25 : decode b_Ma_mark 25 = .ok (.iastore, 1) := by decide +kernel
theorem d_Ma_mark_26 : decode b_Ma_mark 26 = .ok (.aload_n 0, 1) := by decide +kernel
theorem d_Ma_mark_27 : decode b_Ma_mark 27 = .ok (.getfield 28, 3) := by decide +kernel
theorem d_Ma_mark_30 : decode b_Ma_mark 30 = .ok (.iload 5, 2) := by decide +kernel
theorem d_Ma_mark_32 : decode b_Ma_mark 32 = .ok (.iconst 1, 1) := by decide +kernel
theorem d_Ma_mark_33 : decode b_Ma_mark 33 = .ok (.iadd, 1) := by decide +kernel
theorem d_Ma_mark_34 : decode b_Ma_mark 34 = .ok (.iload_n 2, 1) := by decide +kernel
theorem d_Ma_mark_35 : decode b_Ma_mark 35 = .ok (.iastore, 1) := by decide +kernel
theorem d_Ma_mark_36 : decode b_Ma_mark 36 = .ok (.aload_n 0, 1) := by decide +kernel
theorem d_Ma_mark_37 : decode b_Ma_mark 37 = .ok (.getfield 28, 3) := by decide +kernel
theorem d_Ma_mark_40 : decode b_Ma_mark 40 = .ok (.iload 5, 2) := by decide +kernel
theorem d_Ma_mark_42 : decode b_Ma_mark 42 = .ok (.iconst 2, 1) := by decide +kernel
theorem d_Ma_mark_43 : decode b_Ma_mark 43 = .ok (.iadd, 1) := by decide +kernel
theorem d_Ma_mark_44 : decode b_Ma_mark 44 = .ok (.iload_n 3, 1) := by decide +kernel
theorem d_Ma_mark_45 : decode b_Ma_mark 45 = .ok (.iastore, 1) := by decide +kernel
theorem d_Ma_mark_46 : decode b_Ma_mark 46 = .ok (.aload_n 0, 1) := by decide +kernel
theorem d_Ma_mark_47 : decode b_Ma_mark 47 = .ok (.getfield 28, 3) := by decide +kernel
theorem d_Ma_mark_50 : decode b_Ma_mark 50 = .ok (.iload 5, 2) := by decide +kernel
theorem d_Ma_mark_52 : decode b_Ma_mark 52 = .ok (.iconst 3, 1) := by decide +kernel
theorem d_Ma_mark_53 : decode b_Ma_mark 53 = .ok (.iadd, 1) := by decide +kernel
theorem d_Ma_mark_54 : decode b_Ma_mark 54 = .ok (.iload 4, 2) := by decide +kernel
theorem d_Ma_mark_56 : decode b_Ma_mark 56 = .ok (.iastore, 1) := by decide +kernel
theorem d_Ma_mark_57 : decode b_Ma_mark 57 = .ok (.aload_n 0, 1) := by decide +kernel
theorem d_Ma_mark_58 : decode b_Ma_mark 58 = .ok (.getfield 28, 3) := by decide +kernel
theorem d_Ma_mark_61 : decode b_Ma_mark 61 = .ok (.iload 5, 2) := by decide +kernel
theorem d_Ma_mark_63 : decode b_Ma_mark 63 = .ok (.iconst 4, 1) := by decide +kernel
theorem d_Ma_mark_64 : decode b_Ma_mark 64 = .ok (.iadd, 1) := by decide +kernel
theorem d_Ma_mark_65 : decode b_Ma_mark 65 = .ok (.aload_n 0, 1) := by decide +kernel
theorem d_Ma_mark_66 : decode b_Ma_mark 66 = .ok (.getfield 20, 3) := by decide +kernel
theorem d_Ma_mark_69 : decode b_Ma_mark 69 = .ok (.iload_n 2, 1) := by decide +kernel
theorem d_Ma_mark_70 : decode b_Ma_mark 70 = .ok (.aaload, 1) := by decide +kernel
theorem d_Ma_mark_71 : decode b_Ma_mark 71 = .ok (.getfield 273, 3) := by decide +kernel
theorem d_Ma_mark_74 : decode b_Ma_mark 74 = .ok (.iastore, 1) := by decide +kernel
theorem d_Ma_mark_75 : decode b_Ma_mark 75 = .ok (.aload_n 0, 1) := by decide +kernel
theorem d_Ma_mark_76 : decode b_Ma_mark 76 = .ok (.dup, 1) := by decide +kernel
theorem d_Ma_mark_77 : decode b_Ma_mark 77 = .ok (.getfield 31, 3) := by decide +kernel
theorem d_Ma_mark_80 : decode b_Ma_mark 80 = .ok (.iconst 1, 1) := by decide +kernel
theorem d_Ma_mark_81 : decode b_Ma_mark 81 = .ok (.iadd, 1) := by decide +kernel
theorem d_Ma_mark_82 : decode b_Ma_mark 82 = .ok (.putfield 31, 3) := by decide +kernel
theorem d_Ma_mark_85 : decode b_Ma_mark 85 = .ok (.return_, 1) := by decide +kernel
abbrev ru_Ma_mark : Room := { frames := 0, cells := 0, slots := 0, locals := 0 }
def wj_Ma_mark_85 (y : Ly) (Post : St → Prop) (a0 : Nat) (s_j85 : St) : Prop := Post s_j85
def wu_Ma_mark (y : Ly) (Post : St → Prop) (σ : St) (a0 : Nat) (v1 : Int32) (v2 : Int32) (v3 : Int32) (v4 : Int32) : Prop := ((400 ≤ (sV σ a0 5) → wj_Ma_mark_85 y Post a0 σ) ∧ (¬ (400 ≤ (sV σ a0 5)) → xS y σ a0 4 ((sV σ a0 5) * 5) v1 (fun s_1 : St => xS y s_1 a0 4 (((sV σ a0 5) * 5) + 1) v2 (fun s_2 : St => xS y s_2 a0 4 (((sV σ a0 5) * 5) + 2) v3 (fun s_3 : St => xS y s_3 a0 4 (((sV σ a0 5) * 5) + 3) v4 (fun s_4 : St => xQ y a0 2 v2 (fun b_5 : Nat => xS y s_4 a0 4 (((sV σ a0 5) * 5) + 4) (sV s_4 b_5 4) (fun s_7 : St => xP (uV s_7 a0 5 ((sV s_7 a0 5) + 1)) (fun s_8 : St => wj_Ma_mark_85 y Post a0 s_8)))))))))
set_option maxHeartbeats 4000000 in
set_option maxRecDepth 100000 in
theorem cu_Ma_mark (l : Launch) (D : va_G) (g : Nat → ClassId) (ad : Nat → Nat) (y : Ly) (Post : St → Prop) (σ : St) (a0 : Nat) (v1 : Int32) (v2 : Int32) (v3 : Int32) (v4 : Int32) (sz : Nat) (h_a0 : cl a0 = 4) (h : wu_Ma_mark y Post σ a0 v1 v2 v3 v4) : Met l y_Ma_mark (mw y_Ma_mark b_Ma_mark 6 (none)) ru_Ma_mark (PC g D [] [.ref (ad a0), .int v1, .int v2, .int v3, .int v4] sz (ws g ad y σ)) (va_Qv (fun u : St => Post u) (QW D (va_A (ws g ad y σ) sz) (fun u => ws g ad y u)) (va_A (ws g ad y σ) sz)) 0 0 (va_A (ws g ad y σ) sz) := by
  refine ofV (by decide +kernel) (Nat.le_of_ble_eq_true rfl) ?_
  intro p e s m args below meth c A Q ls H locs G hsz hP hD hS hl hret
  subst hsz
  have hl : lv_has ls 6 [(0, .ref (ad a0)), (1, .int v1), (2, .int v2), (3, .int v3), (4, .int v4)] := hl
  unfold wu_Ma_mark at h
  refine lv_aload_n G.1 G.2.1 d_Ma_mark_0 rfl (lv_at hl 0 rfl) ?_
  refine ugf (v := .int (sV σ a0 5)) G hP h_a0 iMa rfl 5 (by decide) rfl q1075 rfl rfl d_Ma_mark_1 ?_
  refine lv_sipush (v := 400) G.1 G.2.1 d_Ma_mark_4 (by decide) ?_
  have J_85 : ∀ (s_j85 : St) (H : Heap) (locs : List Loc), wj_Ma_mark_85 y Post a0 s_j85 → va_P D CL (ws g ad y s_j85) H → va_D A (ws g ad y s_j85) → va_S A s.heap H locs → ∀ ls, lv_has ls 6 [] → W p l e ru_Ma_mark s m args below meth c H locs 0 0 Q (F0 m 85 ls []) := by
    intro s_j85 H locs h hP hD hS ls hl
    unfold wj_Ma_mark_85 at h
    exact hret _ _ _ _ _ _ ls h hP hD hS (Nat.le_refl _) (Nat.le_refl _) d_Ma_mark_85
  refine lv_icmp_ge (tgt := 85) G.1 G.2.1 d_Ma_mark_7 (by decide) (fun c7 => ?_) (fun c7 => ?_)
  · skip
    have h := h.1 c7
    exact J_85 σ H locs h hP hD hS ls (lv_sub hl [] rfl)
  · skip
    have h := h.2 c7
    refine lv_aload_n G.1 G.2.1 d_Ma_mark_10 rfl (lv_at hl 0 rfl) ?_
    refine ugf (v := .int (sV σ a0 5)) G hP h_a0 iMa rfl 5 (by decide) rfl q1075 rfl rfl d_Ma_mark_11 ?_
    refine lv_iconst (v := 5) G.1 G.2.1 d_Ma_mark_14 (by decide) ?_
    refine lv_imul G.1 G.2.1 d_Ma_mark_15 ?_
    refine lv_istore (lv' := [(5, .int ((sV σ a0 5) * 5)), (0, .ref (ad a0)), (1, .int v1), (2, .int v2), (3, .int v3), (4, .int v4)]) G.1 G.2.1 d_Ma_mark_16 hl (by decide) rfl (fun ls hl => ?_)
    refine lv_aload_n G.1 G.2.1 d_Ma_mark_18 rfl (lv_at hl 1 rfl) ?_
    refine ugf (v := .ref (yP y a0 4)) G hP h_a0 iMa rfl 4 (by decide) rfl q1073 rfl rfl d_Ma_mark_19 ?_
    refine W.eq (g2 := F0 m 22 ls [.ref (yP y a0 4)]) rfl ?_
    refine lv_iload G.1 G.2.1 d_Ma_mark_22 (lv_at hl 0 rfl) ?_
    refine lv_iload_n G.1 G.2.1 d_Ma_mark_24 rfl (lv_at hl 2 rfl) ?_
    refine uiast G hP hD hS (kdp h_a0 rfl) (typ h_a0 rfl) h d_Ma_mark_25 (fun s_1 H locs h hP hD hS => ?_)
    refine lv_aload_n G.1 G.2.1 d_Ma_mark_26 rfl (lv_at hl 1 rfl) ?_
    refine ugf (v := .ref (yP y a0 4)) G hP h_a0 iMa rfl 4 (by decide) rfl q1073 rfl rfl d_Ma_mark_27 ?_
    refine lv_iload G.1 G.2.1 d_Ma_mark_30 (lv_at hl 0 rfl) ?_
    refine lv_iconst (v := 1) G.1 G.2.1 d_Ma_mark_32 (by decide) ?_
    refine lv_iadd G.1 G.2.1 d_Ma_mark_33 ?_
    refine lv_iload_n G.1 G.2.1 d_Ma_mark_34 rfl (lv_at hl 3 rfl) ?_
    refine uiast G hP hD hS (kdp h_a0 rfl) (typ h_a0 rfl) h d_Ma_mark_35 (fun s_2 H locs h hP hD hS => ?_)
    refine lv_aload_n G.1 G.2.1 d_Ma_mark_36 rfl (lv_at hl 1 rfl) ?_
    refine ugf (v := .ref (yP y a0 4)) G hP h_a0 iMa rfl 4 (by decide) rfl q1073 rfl rfl d_Ma_mark_37 ?_
    refine W.eq (g2 := F0 m 40 ls [.ref (yP y a0 4)]) rfl ?_
    refine lv_iload G.1 G.2.1 d_Ma_mark_40 (lv_at hl 0 rfl) ?_
    refine lv_iconst (v := 2) G.1 G.2.1 d_Ma_mark_42 (by decide) ?_
    refine lv_iadd G.1 G.2.1 d_Ma_mark_43 ?_
    refine lv_iload_n G.1 G.2.1 d_Ma_mark_44 rfl (lv_at hl 4 rfl) ?_
    refine uiast G hP hD hS (kdp h_a0 rfl) (typ h_a0 rfl) h d_Ma_mark_45 (fun s_3 H locs h hP hD hS => ?_)
    refine lv_aload_n G.1 G.2.1 d_Ma_mark_46 rfl (lv_at hl 1 rfl) ?_
    refine ugf (v := .ref (yP y a0 4)) G hP h_a0 iMa rfl 4 (by decide) rfl q1073 rfl rfl d_Ma_mark_47 ?_
    refine lv_iload G.1 G.2.1 d_Ma_mark_50 (lv_at hl 0 rfl) ?_
    refine lv_iconst (v := 3) G.1 G.2.1 d_Ma_mark_52 (by decide) ?_
    refine lv_iadd G.1 G.2.1 d_Ma_mark_53 ?_
    refine lv_iload G.1 G.2.1 d_Ma_mark_54 (lv_at hl 5 rfl) ?_
    refine uiast G hP hD hS (kdp h_a0 rfl) (typ h_a0 rfl) h d_Ma_mark_56 (fun s_4 H locs h hP hD hS => ?_)
    refine W.eq (g2 := F0 m 57 ls []) rfl ?_
    refine lv_aload_n G.1 G.2.1 d_Ma_mark_57 rfl (lv_at hl 1 rfl) ?_
    refine ugf (v := .ref (yP y a0 4)) G hP h_a0 iMa rfl 4 (by decide) rfl q1073 rfl rfl d_Ma_mark_58 ?_
    refine lv_iload G.1 G.2.1 d_Ma_mark_61 (lv_at hl 0 rfl) ?_
    refine lv_iconst (v := 4) G.1 G.2.1 d_Ma_mark_63 (by decide) ?_
    refine lv_iadd G.1 G.2.1 d_Ma_mark_64 ?_
    refine lv_aload_n G.1 G.2.1 d_Ma_mark_65 rfl (lv_at hl 1 rfl) ?_
    refine ugf (v := .ref (yP y a0 2)) G hP h_a0 iMa rfl 2 (by decide) rfl q1069 rfl rfl d_Ma_mark_66 ?_
    refine lv_iload_n G.1 G.2.1 d_Ma_mark_69 rfl (lv_at hl 3 rfl) ?_
    refine uqald G hP (kdp h_a0 rfl) (typ h_a0 rfl) rfl h d_Ma_mark_70 (fun b_5 n_6 h => ?_)
    refine ugf (v := .int (sV s_4 b_5 4)) G hP (oa_4 h_a0 n_6) iRu rfl 4 (by decide) rfl q989 rfl rfl d_Ma_mark_71 ?_
    refine uiast G hP hD hS (kdp h_a0 rfl) (typ h_a0 rfl) h d_Ma_mark_74 (fun s_7 H locs h hP hD hS => ?_)
    refine lv_aload_n G.1 G.2.1 d_Ma_mark_75 rfl (lv_at hl 1 rfl) ?_
    refine W.eq (g2 := F0 m 76 ls [.ref (ad a0)]) rfl ?_
    refine lv_dup G.1 G.2.1 d_Ma_mark_76 rfl ?_
    refine ugf (v := .int (sV s_7 a0 5)) G hP h_a0 iMa rfl 5 (by decide) rfl q1075 rfl rfl d_Ma_mark_77 ?_
    refine lv_iconst (v := 1) G.1 G.2.1 d_Ma_mark_80 (by decide) ?_
    refine lv_iadd G.1 G.2.1 d_Ma_mark_81 ?_
    refine upf G hP hD hS h 5 putV h_a0 iMa tMa tMa_ok nMa rfl (by decide) rfl q1075 rfl rfl fV rfl rfl d_Ma_mark_82 (fun s_8 H locs h hP hD hS => ?_)
    exact J_85 s_8 H locs h hP hD hS ls (lv_sub hl [] rfl)
theorem q1911 : Cond.methodLink "ClassWorks$Machine" 276 y_Ma_mark ∈ lw_ok := lw_okmem (List.mem_of_getElem? (i := 1911) (by decide +kernel)) rfl
theorem q1914 : Cond.code y_Ma_mark b_Ma_mark 6 (none) ∈ lw_ok := lw_okmem (List.mem_of_getElem? (i := 1914) (by decide +kernel)) rfl
theorem q1913 : Cond.instanceMethod y_Ma_mark ∈ lw_ok := lw_okmem (List.mem_of_getElem? (i := 1913) (by decide +kernel)) rfl
theorem q92 : Cond.selects y_Ma_mark.cls y_Ma_mark y_Ma_mark ∈ lw_ok := lw_okmem (List.mem_of_getElem? (i := 92) (by decide +kernel)) rfl
theorem w9_Ma_mark : CWv y_Ma_mark b_Ma_mark 6 (none) 4 ∧ Cond.instanceMethod y_Ma_mark ∈ lw_ok ∧ Cond.selects y_Ma_mark.cls y_Ma_mark y_Ma_mark ∈ lw_ok := ⟨⟨q1914, q344, by decide +kernel, by decide +kernel, by decide +kernel⟩, q1913, q92⟩
def y_Ma_markFrame : MethodName := ⟨"ClassWorks$Machine", "markFrame", "(II)V"⟩
abbrev b_Ma_markFrame : ByteArray := prog_6_method_17_code
theorem d_Ma_markFrame_0 : decode b_Ma_markFrame 0 = .ok (.aload_n 0, 1) := by decide +kernel
theorem d_Ma_markFrame_1 : decode b_Ma_markFrame 1 = .ok (.getfield 20, 3) := by decide +kernel
theorem d_Ma_markFrame_4 : decode b_Ma_markFrame 4 = .ok (.iload_n 2, 1) := by decide +kernel
theorem d_Ma_markFrame_5 : decode b_Ma_markFrame 5 = .ok (.aaload, 1) := by decide +kernel
theorem d_Ma_markFrame_6 : decode b_Ma_markFrame 6 = .ok (.astore_n 3, 1) := by decide +kernel
theorem d_Ma_markFrame_7 : decode b_Ma_markFrame 7 = .ok (.aload_n 0, 1) := by decide +kernel
theorem d_Ma_markFrame_8 : decode b_Ma_markFrame 8 = .ok (.iload_n 1, 1) := by decide +kernel
theorem d_Ma_markFrame_9 : decode b_Ma_markFrame 9 = .ok (.iload_n 2, 1) := by decide +kernel
theorem d_Ma_markFrame_10 : decode b_Ma_markFrame 10 = .ok (.aload_n 3, 1) := by decide +kernel
theorem d_Ma_markFrame_11 : decode b_Ma_markFrame 11 = .ok (.getfield 211, 3) := by decide +kernel
theorem d_Ma_markFrame_14 : decode b_Ma_markFrame 14 = .ok (.aload_n 3, 1) := by decide +kernel
theorem d_Ma_markFrame_15 : decode b_Ma_markFrame 15 = .ok (.getfield 158, 3) := by decide +kernel
theorem d_Ma_markFrame_18 : decode b_Ma_markFrame 18 = .ok (.iconst 1, 1) := by decide +kernel
theorem d_Ma_markFrame_19 : decode b_Ma_markFrame 19 = .ok (.isub, 1) := by decide +kernel
theorem d_Ma_markFrame_20 : decode b_Ma_markFrame 20 = .ok (.iaload, 1) := by decide +kernel
theorem d_Ma_markFrame_21 : decode b_Ma_markFrame 21 = .ok (.aload_n 3, 1) := by decide +kernel
theorem d_Ma_markFrame_22 : decode b_Ma_markFrame 22 = .ok (.getfield 214, 3) := by decide +kernel
theorem d_Ma_markFrame_25 : decode b_Ma_markFrame 25 = .ok (.aload_n 3, 1) := by decide +kernel
theorem d_Ma_markFrame_26 : decode b_Ma_markFrame 26 = .ok (.getfield 158, 3) := by decide +kernel
theorem d_Ma_markFrame_29 : decode b_Ma_markFrame 29 = .ok (.iconst 1, 1) := by decide +kernel
theorem d_Ma_markFrame_30 : decode b_Ma_markFrame 30 = .ok (.isub, 1) := by decide +kernel
theorem d_Ma_markFrame_31 : decode b_Ma_markFrame 31 = .ok (.iaload, 1) := by decide +kernel
theorem d_Ma_markFrame_32 : decode b_Ma_markFrame 32 = .ok (.invokevirtual 276, 3) := by decide +kernel
theorem d_Ma_markFrame_35 : decode b_Ma_markFrame 35 = .ok (.return_, 1) := by decide +kernel
abbrev ru_Ma_markFrame : Room := { frames := 1, cells := 0, slots := 0, locals := 25 }
def wu_Ma_markFrame (y : Ly) (Post : St → Prop) (σ : St) (a0 : Nat) (v1 : Int32) (v2 : Int32) : Prop := xQ y a0 2 v2 (fun b_1 : Nat => xA y σ b_1 11 ((sV σ b_1 10) - 1) (fun x_3 : Int32 => xA y σ b_1 12 ((sV σ b_1 10) - 1) (fun x_4 : Int32 => wu_Ma_mark y (fun (s_6 : St) => Post s_6) σ a0 v1 v2 x_3 x_4)))
set_option maxHeartbeats 4000000 in
set_option maxRecDepth 100000 in
theorem cu_Ma_markFrame (l : Launch) (D : va_G) (g : Nat → ClassId) (ad : Nat → Nat) (y : Ly) (Post : St → Prop) (σ : St) (a0 : Nat) (v1 : Int32) (v2 : Int32) (sz : Nat) (h_a0 : cl a0 = 4) (h : wu_Ma_markFrame y Post σ a0 v1 v2) : Met l y_Ma_markFrame (mw y_Ma_markFrame b_Ma_markFrame 4 (none)) ru_Ma_markFrame (PC g D [] [.ref (ad a0), .int v1, .int v2] sz (ws g ad y σ)) (va_Qv (fun u : St => Post u) (QW D (va_A (ws g ad y σ) sz) (fun u => ws g ad y u)) (va_A (ws g ad y σ) sz)) 0 0 (va_A (ws g ad y σ) sz) := by
  refine ofV (by decide +kernel) (Nat.le_of_ble_eq_true rfl) ?_
  intro p e s m args below meth c A Q ls H locs G hsz hP hD hS hl hret
  subst hsz
  have hl : lv_has ls 4 [(0, .ref (ad a0)), (1, .int v1), (2, .int v2)] := hl
  unfold wu_Ma_markFrame at h
  refine lv_aload_n G.1 G.2.1 d_Ma_markFrame_0 rfl (lv_at hl 0 rfl) ?_
  refine ugf (v := .ref (yP y a0 2)) G hP h_a0 iMa rfl 2 (by decide) rfl q1069 rfl rfl d_Ma_markFrame_1 ?_
  refine lv_iload_n G.1 G.2.1 d_Ma_markFrame_4 rfl (lv_at hl 2 rfl) ?_
  refine uqald G hP (kdp h_a0 rfl) (typ h_a0 rfl) rfl h d_Ma_markFrame_5 (fun b_1 n_2 h => ?_)
  refine lv_astore_n (lv' := [(3, .ref (ad b_1)), (0, .ref (ad a0)), (1, .int v1), (2, .int v2)]) G.1 G.2.1 d_Ma_markFrame_6 rfl hl (by decide) rfl (fun ls hl => ?_)
  refine lv_aload_n G.1 G.2.1 d_Ma_markFrame_7 rfl (lv_at hl 1 rfl) ?_
  refine lv_iload_n G.1 G.2.1 d_Ma_markFrame_8 rfl (lv_at hl 2 rfl) ?_
  refine lv_iload_n G.1 G.2.1 d_Ma_markFrame_9 rfl (lv_at hl 3 rfl) ?_
  refine lv_aload_n G.1 G.2.1 d_Ma_markFrame_10 rfl (lv_at hl 0 rfl) ?_
  refine ugf (v := .ref (yP y b_1 11)) G hP (oa_4 h_a0 n_2) iRu rfl 11 (by decide) rfl q1009 rfl rfl d_Ma_markFrame_11 ?_
  refine lv_aload_n G.1 G.2.1 d_Ma_markFrame_14 rfl (lv_at hl 0 rfl) ?_
  refine W.eq (g2 := F0 m 15 ls [.ref (ad b_1), .ref (yP y b_1 11), .int v2, .int v1, .ref (ad a0)]) rfl ?_
  refine ugf (v := .int (sV σ b_1 10)) G hP (oa_4 h_a0 n_2) iRu rfl 10 (by decide) rfl q1006 rfl rfl d_Ma_markFrame_15 ?_
  refine lv_iconst (v := 1) G.1 G.2.1 d_Ma_markFrame_18 (by decide) ?_
  refine lv_isub G.1 G.2.1 d_Ma_markFrame_19 ?_
  refine uiald G hP (kdp (oa_4 h_a0 n_2) rfl) (typ (oa_4 h_a0 n_2) rfl) h d_Ma_markFrame_20 (fun x_3 h => ?_)
  refine lv_aload_n G.1 G.2.1 d_Ma_markFrame_21 rfl (lv_at hl 0 rfl) ?_
  refine ugf (v := .ref (yP y b_1 12)) G hP (oa_4 h_a0 n_2) iRu rfl 12 (by decide) rfl q1012 rfl rfl d_Ma_markFrame_22 ?_
  refine lv_aload_n G.1 G.2.1 d_Ma_markFrame_25 rfl (lv_at hl 0 rfl) ?_
  refine ugf (v := .int (sV σ b_1 10)) G hP (oa_4 h_a0 n_2) iRu rfl 10 (by decide) rfl q1006 rfl rfl d_Ma_markFrame_26 ?_
  refine lv_iconst (v := 1) G.1 G.2.1 d_Ma_markFrame_29 (by decide) ?_
  refine lv_isub G.1 G.2.1 d_Ma_markFrame_30 ?_
  refine uiald G hP (kdp (oa_4 h_a0 n_2) rfl) (typ (oa_4 h_a0 n_2) rfl) h d_Ma_markFrame_31 (fun x_4 h => ?_)
  refine ucVv (As := [.int v1, .int v2, .int x_3, .int x_4]) (rest := []) G hP hD hS (cu_Ma_mark l D g ad y _ σ a0 v1 v2 x_3 x_4 H.size h_a0 h) w9_Ma_mark q1911 ⟨Nat.le_of_ble_eq_true rfl, Nat.le_of_ble_eq_true rfl⟩ rfl rfl h_a0 (q := (RMa, TMa, 19)) rfl rfl hl.1 rfl (Nat.le_of_ble_eq_true rfl) rfl ⟨Nat.le_refl _, Nat.le_refl _⟩ d_Ma_markFrame_32 (fun s_6 H locs h hP hD hS => ?_)
  refine W.eq (g2 := F0 m 35 ls []) rfl ?_
  exact hret _ _ _ _ _ _ ls h hP hD hS (Nat.le_refl _) (Nat.le_refl _) d_Ma_markFrame_35
def y_Ma_inStart : MethodName := ⟨"ClassWorks$Machine", "inStart", "(LClassWorks$Runner;)Z"⟩
abbrev b_Ma_inStart : ByteArray := prog_6_method_26_code
theorem q1923 : Cond.methodLink "ClassWorks$Machine" 349 y_Wd_method ∈ lw_ok := lw_okmem (List.mem_of_getElem? (i := 1923) (by decide +kernel)) rfl
theorem d_Ma_inStart_0 : decode b_Ma_inStart 0 = .ok (.aload_n 1, 1) := by decide +kernel
theorem d_Ma_inStart_1 : decode b_Ma_inStart 1 = .ok (.getfield 158, 3) := by decide +kernel
theorem d_Ma_inStart_4 : decode b_Ma_inStart 4 = .ok (.iconst 1, 1) := by decide +kernel
theorem d_Ma_inStart_5 : decode b_Ma_inStart 5 = .ok (.isub, 1) := by decide +kernel
theorem d_Ma_inStart_6 : decode b_Ma_inStart 6 = .ok (.istore_n 2, 1) := by decide +kernel
theorem d_Ma_inStart_7 : decode b_Ma_inStart 7 = .ok (.aload_n 0, 1) := by decide +kernel
theorem d_Ma_inStart_8 : decode b_Ma_inStart 8 = .ok (.getfield 69, 3) := by decide +kernel
theorem d_Ma_inStart_11 : decode b_Ma_inStart 11 = .ok (.aload_n 1, 1) := by decide +kernel
theorem d_Ma_inStart_12 : decode b_Ma_inStart 12 = .ok (.getfield 211, 3) := by decide +kernel
theorem d_Ma_inStart_15 : decode b_Ma_inStart 15 = .ok (.iload_n 2, 1) := by decide +kernel
theorem d_Ma_inStart_16 : decode b_Ma_inStart 16 = .ok (.iaload, 1) := by decide +kernel
theorem d_Ma_inStart_17 : decode b_Ma_inStart 17 = .ok (.aload_n 1, 1) := by decide +kernel
theorem d_Ma_inStart_18 : decode b_Ma_inStart 18 = .ok (.getfield 214, 3) := by decide +kernel
theorem d_Ma_inStart_21 : decode b_Ma_inStart 21 = .ok (.iload_n 2, 1) := by decide +kernel
theorem d_Ma_inStart_22 : decode b_Ma_inStart 22 = .ok (.iaload, 1) := by decide +kernel
theorem d_Ma_inStart_23 : decode b_Ma_inStart 23 = .ok (.iconst 0, 1) := by decide +kernel
theorem d_Ma_inStart_24 : decode b_Ma_inStart 24 = .ok (.invokevirtual 349, 3) := by decide +kernel
theorem d_Ma_inStart_27 : decode b_Ma_inStart 27 = .ok (.aload_n 0, 1) := by decide +kernel
theorem d_Ma_inStart_28 : decode b_Ma_inStart 28 = .ok (.getfield 77, 3) := by decide +kernel
theorem d_Ma_inStart_31 : decode b_Ma_inStart 31 = .ok (.getfield 184, 3) := by decide +kernel
theorem d_Ma_inStart_34 : decode b_Ma_inStart 34 = .ok (.if_icmp .ne 7, 3) := by decide +kernel
theorem d_Ma_inStart_37 : decode b_Ma_inStart 37 = .ok (.iconst 1, 1) := by decide +kernel
theorem d_Ma_inStart_38 : decode b_Ma_inStart 38 = .ok (.goto 4, 3) := by decide +kernel
theorem d_Ma_inStart_41 : decode b_Ma_inStart 41 = .ok (.iconst 0, 1) := by decide +kernel
theorem d_Ma_inStart_42 : decode b_Ma_inStart 42 = .ok (.ireturn, 1) := by decide +kernel
abbrev ru_Ma_inStart : Room := { frames := 1, cells := 0, slots := 0, locals := 23 }
def wj_Ma_inStart_42 (y : Ly) (Post : St → Int32 → Prop) (a0 : Nat) (a1 : Nat) (s_j42 : St) (z0j42 : Int32) : Prop := (nb z0j42 ∧ Post s_j42 z0j42)
def wu_Ma_inStart (y : Ly) (Post : St → Int32 → Prop) (σ : St) (a0 : Nat) (a1 : Nat) : Prop := xA y σ a1 11 ((sV σ a1 10) - 1) (fun x_1 : Int32 => xA y σ a1 12 ((sV σ a1 10) - 1) (fun x_2 : Int32 => wu_Wd_method y (fun (s_4 : St) (r_3 : Int32) => ((¬ r_3 = (sV s_4 (lk a0 15) 10) → wj_Ma_inStart_42 y Post a0 a1 s_4 0) ∧ (r_3 = (sV s_4 (lk a0 15) 10) → wj_Ma_inStart_42 y Post a0 a1 s_4 1))) σ (lk a0 0) x_1 x_2 0))
set_option maxHeartbeats 4000000 in
set_option maxRecDepth 100000 in
theorem cu_Ma_inStart (l : Launch) (D : va_G) (g : Nat → ClassId) (ad : Nat → Nat) (y : Ly) (Post : St → Int32 → Prop) (σ : St) (a0 : Nat) (a1 : Nat) (sz : Nat) (h_a0 : cl a0 = 4) (h_a1 : cl a1 = 7) (h : wu_Ma_inStart y Post σ a0 a1) : Met l y_Ma_inStart (mw y_Ma_inStart b_Ma_inStart 3 (some (.boolean))) ru_Ma_inStart (PC g D [] [.ref (ad a0), .ref (ad a1)] sz (ws g ad y σ)) (va_Qi (fun (r : Int32) (u : St) => Post u r) (QW D (va_A (ws g ad y σ) sz) (fun u => ws g ad y u)) (va_A (ws g ad y σ) sz)) 0 0 (va_A (ws g ad y σ) sz) := by
  refine ofZ (by decide +kernel) (Nat.le_of_ble_eq_true rfl) ?_
  intro p e s m args below meth c A Q ls H locs G hsz hP hD hS hl hret
  subst hsz
  have hl : lv_has ls 3 [(0, .ref (ad a0)), (1, .ref (ad a1))] := hl
  unfold wu_Ma_inStart at h
  refine lv_aload_n G.1 G.2.1 d_Ma_inStart_0 rfl (lv_at hl 1 rfl) ?_
  refine ugf (v := .int (sV σ a1 10)) G hP h_a1 iRu rfl 10 (by decide) rfl q1006 rfl rfl d_Ma_inStart_1 ?_
  refine lv_iconst (v := 1) G.1 G.2.1 d_Ma_inStart_4 (by decide) ?_
  refine lv_isub G.1 G.2.1 d_Ma_inStart_5 ?_
  refine lv_istore_n (lv' := [(2, .int ((sV σ a1 10) - 1)), (0, .ref (ad a0)), (1, .ref (ad a1))]) G.1 G.2.1 d_Ma_inStart_6 rfl hl (by decide) rfl (fun ls hl => ?_)
  refine lv_aload_n G.1 G.2.1 d_Ma_inStart_7 rfl (lv_at hl 1 rfl) ?_
  refine ugf (v := .ref (ad (lk a0 0))) G hP h_a0 iMa rfl 0 (by decide) rfl q1065 rfl rfl d_Ma_inStart_8 ?_
  refine lv_aload_n G.1 G.2.1 d_Ma_inStart_11 rfl (lv_at hl 2 rfl) ?_
  refine ugf (v := .ref (yP y a1 11)) G hP h_a1 iRu rfl 11 (by decide) rfl q1009 rfl rfl d_Ma_inStart_12 ?_
  refine lv_iload_n G.1 G.2.1 d_Ma_inStart_15 rfl (lv_at hl 0 rfl) ?_
  refine uiald G hP (kdp h_a1 rfl) (typ h_a1 rfl) h d_Ma_inStart_16 (fun x_1 h => ?_)
  refine W.eq (g2 := F0 m 17 ls [.int x_1, .ref (ad (lk a0 0))]) rfl ?_
  refine lv_aload_n G.1 G.2.1 d_Ma_inStart_17 rfl (lv_at hl 2 rfl) ?_
  refine ugf (v := .ref (yP y a1 12)) G hP h_a1 iRu rfl 12 (by decide) rfl q1012 rfl rfl d_Ma_inStart_18 ?_
  refine lv_iload_n G.1 G.2.1 d_Ma_inStart_21 rfl (lv_at hl 0 rfl) ?_
  refine uiald G hP (kdp h_a1 rfl) (typ h_a1 rfl) h d_Ma_inStart_22 (fun x_2 h => ?_)
  refine lv_iconst (v := 0) G.1 G.2.1 d_Ma_inStart_23 (by decide) ?_
  refine ucVi (As := [.int x_1, .int x_2, .int 0]) (rest := []) G hP hD hS (cu_Wd_method l D g ad y _ σ (lk a0 0) x_1 x_2 0 H.size (lk_4_0 h_a0) h) w9_Wd_method q1923 ⟨Nat.le_of_ble_eq_true rfl, Nat.le_of_ble_eq_true rfl⟩ rfl rfl (lk_4_0 h_a0) (q := (RWd, TWd, 17)) rfl rfl hl.1 rfl (Nat.le_of_ble_eq_true rfl) rfl ⟨Nat.le_refl _, Nat.le_refl _⟩ d_Ma_inStart_24 (fun r_3 s_4 H locs h hP hD hS => ?_)
  refine lv_aload_n G.1 G.2.1 d_Ma_inStart_27 rfl (lv_at hl 1 rfl) ?_
  refine ugf (v := .ref (ad (lk a0 15))) G hP h_a0 iMa rfl 15 (by decide) rfl q1091 rfl rfl d_Ma_inStart_28 ?_
  refine ugf (v := .int (sV s_4 (lk a0 15) 10)) G hP (lk_4_15 h_a0) iNa rfl 10 (by decide) rfl q516 rfl rfl d_Ma_inStart_31 ?_
  have J_42 : ∀ (s_j42 : St) (z0j42 : Int32) (H : Heap) (locs : List Loc), wj_Ma_inStart_42 y Post a0 a1 s_j42 z0j42 → va_P D CL (ws g ad y s_j42) H → va_D A (ws g ad y s_j42) → va_S A s.heap H locs → ∀ ls, lv_has ls 3 [] → W p l e ru_Ma_inStart s m args below meth c H locs 0 0 Q (F0 m 42 ls [.int z0j42]) := by
    intro s_j42 z0j42 H locs h hP hD hS ls hl
    unfold wj_Ma_inStart_42 at h
    exact hret _ _ _ _ _ _ _ ls (nb_n h.1) h.2 hP hD hS (Nat.le_refl _) (Nat.le_refl _) d_Ma_inStart_42
  refine lv_icmp_ne (tgt := 41) G.1 G.2.1 d_Ma_inStart_34 (by decide) (fun c34 => ?_) (fun c34 => ?_)
  · skip
    have h := h.1 c34
    refine lv_iconst (v := 0) G.1 G.2.1 d_Ma_inStart_41 (by decide) ?_
    exact J_42 s_4 0 H locs h hP hD hS ls (lv_sub hl [] rfl)
  · skip
    have h := h.2 c34
    refine lv_iconst (v := 1) G.1 G.2.1 d_Ma_inStart_37 (by decide) ?_
    refine lv_goto (tgt := 42) G.1 G.2.1 d_Ma_inStart_38 (by decide) ?_
    exact J_42 s_4 1 H locs h hP hD hS ls (lv_sub hl [] rfl)
def y_Ma_endStart : MethodName := ⟨"ClassWorks$Machine", "endStart", "(LClassWorks$Runner;II)V"⟩
abbrev b_Ma_endStart : ByteArray := prog_6_method_21_code
theorem d_Ma_endStart_0 : decode b_Ma_endStart 0 = .ok (.aload_n 1, 1) := by decide +kernel
theorem d_Ma_endStart_1 : decode b_Ma_endStart 1 = .ok (.dup, 1) := by decide +kernel
theorem d_Ma_endStart_2 : decode b_Ma_endStart 2 = .ok (.getfield 116, 3) := by decide +kernel
theorem d_Ma_endStart_5 : decode b_Ma_endStart 5 = .ok (.iconst 1, 1) := by decide +kernel
theorem d_Ma_endStart_6 : decode b_Ma_endStart 6 = .ok (.isub, 1) := by decide +kernel
theorem d_Ma_endStart_7 : decode b_Ma_endStart 7 = .ok (.putfield 116, 3) := by decide +kernel
theorem d_Ma_endStart_10 : decode b_Ma_endStart 10 = .ok (.aload_n 1, 1) := by decide +kernel
theorem d_Ma_endStart_11 : decode b_Ma_endStart 11 = .ok (.getfield 119, 3) := by decide +kernel
theorem d_Ma_endStart_14 : decode b_Ma_endStart 14 = .ok (.aload_n 1, 1) := by decide +kernel
theorem d_Ma_endStart_15 : decode b_Ma_endStart 15 = .ok (.getfield 116, 3) := by decide +kernel
theorem d_Ma_endStart_18 : decode b_Ma_endStart 18 = .ok (.iaload, 1) := by decide +kernel
theorem d_Ma_endStart_19 : decode b_Ma_endStart 19 = .ok (.istore 4, 2) := by decide +kernel
theorem d_Ma_endStart_21 : decode b_Ma_endStart 21 = .ok (.aload_n 0, 1) := by decide +kernel
theorem d_Ma_endStart_22 : decode b_Ma_endStart 22 = .ok (.getfield 69, 3) := by decide +kernel
theorem d_Ma_endStart_25 : decode b_Ma_endStart 25 = .ok (.iload 4, 2) := by decide +kernel
theorem d_Ma_endStart_27 : decode b_Ma_endStart 27 = .ok (.bipush 13, 2) := by decide +kernel
theorem d_Ma_endStart_29 : decode b_Ma_endStart 29 = .ok (.iload_n 3, 1) := by decide +kernel
theorem d_Ma_endStart_30 : decode b_Ma_endStart 30 = .ok (.invokevirtual 122, 3) := by decide +kernel
theorem d_Ma_endStart_33 : decode b_Ma_endStart 33 = .ok (.aload_n 0, 1) := by decide +kernel
theorem d_Ma_endStart_34 : decode b_Ma_endStart 34 = .ok (.iload_n 3, 1) := by decide +kernel
theorem d_Ma_endStart_35 : decode b_Ma_endStart 35 = .ok (.iconst 2, 1) := by decide +kernel
theorem d_Ma_endStart_36 : decode b_Ma_endStart 36 = .ok (.if_icmp .ne 7, 3) := by decide +kernel
theorem d_Ma_endStart_39 : decode b_Ma_endStart 39 = .ok (.iconst 5, 1) := by decide +kernel
theorem d_Ma_endStart_40 : decode b_Ma_endStart 40 = .ok (.goto 5, 3) := by decide +kernel
theorem d_Ma_endStart_43 : decode b_Ma_endStart 43 = .ok (.bipush 6, 2) := by decide +kernel
theorem d_Ma_endStart_45 : decode b_Ma_endStart 45 = .ok (.iload_n 2, 1) := by decide +kernel
theorem d_Ma_endStart_46 : decode b_Ma_endStart 46 = .ok (.iload 4, 2) := by decide +kernel
theorem d_Ma_endStart_48 : decode b_Ma_endStart 48 = .ok (.bipush (-2), 2) := by decide +kernel
theorem d_Ma_endStart_50 : decode b_Ma_endStart 50 = .ok (.invokevirtual 276, 3) := by decide +kernel
theorem d_Ma_endStart_53 : decode b_Ma_endStart 53 = .ok (.return_, 1) := by decide +kernel
abbrev ru_Ma_endStart : Room := { frames := 1, cells := 0, slots := 0, locals := 25 }
def wj_Ma_endStart_45 (y : Ly) (Post : St → Prop) (a0 : Nat) (a1 : Nat) (s_j45 : St) (x2j45 : Int32) (x4j45 : Int32) (z1j45 : Int32) : Prop := wu_Ma_mark y (fun (s_6 : St) => Post s_6) s_j45 a0 z1j45 x2j45 x4j45 (-2)
def wu_Ma_endStart (y : Ly) (Post : St → Prop) (σ : St) (a0 : Nat) (a1 : Nat) (v2 : Int32) (v3 : Int32) : Prop := xP (uV σ a1 16 ((sV σ a1 16) - 1)) (fun s_1 : St => xA y s_1 a1 17 (sV s_1 a1 16) (fun x_2 : Int32 => wu_Wd_set y (fun (s_4 : St) => ((¬ v3 = 2 → wj_Ma_endStart_45 y Post a0 a1 s_4 v2 x_2 6) ∧ (v3 = 2 → wj_Ma_endStart_45 y Post a0 a1 s_4 v2 x_2 5))) s_1 (lk a0 0) x_2 13 v3))
set_option maxHeartbeats 4000000 in
set_option maxRecDepth 100000 in
theorem cu_Ma_endStart (l : Launch) (D : va_G) (g : Nat → ClassId) (ad : Nat → Nat) (y : Ly) (Post : St → Prop) (σ : St) (a0 : Nat) (a1 : Nat) (v2 : Int32) (v3 : Int32) (sz : Nat) (h_a0 : cl a0 = 4) (h_a1 : cl a1 = 7) (h : wu_Ma_endStart y Post σ a0 a1 v2 v3) : Met l y_Ma_endStart (mw y_Ma_endStart b_Ma_endStart 5 (none)) ru_Ma_endStart (PC g D [] [.ref (ad a0), .ref (ad a1), .int v2, .int v3] sz (ws g ad y σ)) (va_Qv (fun u : St => Post u) (QW D (va_A (ws g ad y σ) sz) (fun u => ws g ad y u)) (va_A (ws g ad y σ) sz)) 0 0 (va_A (ws g ad y σ) sz) := by
  refine ofV (by decide +kernel) (Nat.le_of_ble_eq_true rfl) ?_
  intro p e s m args below meth c A Q ls H locs G hsz hP hD hS hl hret
  subst hsz
  have hl : lv_has ls 5 [(0, .ref (ad a0)), (1, .ref (ad a1)), (2, .int v2), (3, .int v3)] := hl
  unfold wu_Ma_endStart at h
  refine lv_aload_n G.1 G.2.1 d_Ma_endStart_0 rfl (lv_at hl 1 rfl) ?_
  refine lv_dup G.1 G.2.1 d_Ma_endStart_1 rfl ?_
  refine ugf (v := .int (sV σ a1 16)) G hP h_a1 iRu rfl 16 (by decide) rfl q1022 rfl rfl d_Ma_endStart_2 ?_
  refine lv_iconst (v := 1) G.1 G.2.1 d_Ma_endStart_5 (by decide) ?_
  refine lv_isub G.1 G.2.1 d_Ma_endStart_6 ?_
  refine upf G hP hD hS h 16 putV h_a1 iRu tRu tRu_ok nRu rfl (by decide) rfl q1022 rfl rfl fV rfl rfl d_Ma_endStart_7 (fun s_1 H locs h hP hD hS => ?_)
  refine lv_aload_n G.1 G.2.1 d_Ma_endStart_10 rfl (lv_at hl 1 rfl) ?_
  refine ugf (v := .ref (yP y a1 17)) G hP h_a1 iRu rfl 17 (by decide) rfl q1024 rfl rfl d_Ma_endStart_11 ?_
  refine lv_aload_n G.1 G.2.1 d_Ma_endStart_14 rfl (lv_at hl 1 rfl) ?_
  refine ugf (v := .int (sV s_1 a1 16)) G hP h_a1 iRu rfl 16 (by decide) rfl q1022 rfl rfl d_Ma_endStart_15 ?_
  refine uiald G hP (kdp h_a1 rfl) (typ h_a1 rfl) h d_Ma_endStart_18 (fun x_2 h => ?_)
  refine W.eq (g2 := F0 m 19 ls [.int x_2]) rfl ?_
  refine lv_istore (lv' := [(4, .int x_2), (0, .ref (ad a0)), (1, .ref (ad a1)), (2, .int v2), (3, .int v3)]) G.1 G.2.1 d_Ma_endStart_19 hl (by decide) rfl (fun ls hl => ?_)
  refine lv_aload_n G.1 G.2.1 d_Ma_endStart_21 rfl (lv_at hl 1 rfl) ?_
  refine ugf (v := .ref (ad (lk a0 0))) G hP h_a0 iMa rfl 0 (by decide) rfl q1065 rfl rfl d_Ma_endStart_22 ?_
  refine lv_iload G.1 G.2.1 d_Ma_endStart_25 (lv_at hl 0 rfl) ?_
  refine lv_bipush (v := 13) G.1 G.2.1 d_Ma_endStart_27 (by decide) ?_
  refine lv_iload_n G.1 G.2.1 d_Ma_endStart_29 rfl (lv_at hl 4 rfl) ?_
  refine ucVv (As := [.int x_2, .int 13, .int v3]) (rest := []) G hP hD hS (cu_Wd_set l D g ad y _ s_1 (lk a0 0) x_2 13 v3 H.size (lk_4_0 h_a0) h) w9_Wd_set q1770 ⟨Nat.le_of_ble_eq_true rfl, Nat.le_of_ble_eq_true rfl⟩ rfl rfl (lk_4_0 h_a0) (q := (RWd, TWd, 17)) rfl rfl hl.1 rfl (Nat.le_of_ble_eq_true rfl) rfl ⟨Nat.le_refl _, Nat.le_refl _⟩ d_Ma_endStart_30 (fun s_4 H locs h hP hD hS => ?_)
  refine lv_aload_n G.1 G.2.1 d_Ma_endStart_33 rfl (lv_at hl 1 rfl) ?_
  refine lv_iload_n G.1 G.2.1 d_Ma_endStart_34 rfl (lv_at hl 4 rfl) ?_
  refine lv_iconst (v := 2) G.1 G.2.1 d_Ma_endStart_35 (by decide) ?_
  have J_45 : ∀ (s_j45 : St) (x2j45 : Int32) (x4j45 : Int32) (z1j45 : Int32) (H : Heap) (locs : List Loc), wj_Ma_endStart_45 y Post a0 a1 s_j45 x2j45 x4j45 z1j45 → va_P D CL (ws g ad y s_j45) H → va_D A (ws g ad y s_j45) → va_S A s.heap H locs → ∀ ls, lv_has ls 5 [(2, .int x2j45), (4, .int x4j45)] → W p l e ru_Ma_endStart s m args below meth c H locs 0 0 Q (F0 m 45 ls [.int z1j45, .ref (ad a0)]) := by
    intro s_j45 x2j45 x4j45 z1j45 H locs h hP hD hS ls hl
    unfold wj_Ma_endStart_45 at h
    refine lv_iload_n G.1 G.2.1 d_Ma_endStart_45 rfl (lv_at hl 0 rfl) ?_
    refine lv_iload G.1 G.2.1 d_Ma_endStart_46 (lv_at hl 1 rfl) ?_
    refine lv_bipush (v := (-2)) G.1 G.2.1 d_Ma_endStart_48 (by decide) ?_
    refine ucVv (As := [.int z1j45, .int x2j45, .int x4j45, .int (-2)]) (rest := []) G hP hD hS (cu_Ma_mark l D g ad y _ s_j45 a0 z1j45 x2j45 x4j45 (-2) H.size h_a0 h) w9_Ma_mark q1911 ⟨Nat.le_of_ble_eq_true rfl, Nat.le_of_ble_eq_true rfl⟩ rfl rfl h_a0 (q := (RMa, TMa, 19)) rfl rfl hl.1 rfl (Nat.le_of_ble_eq_true rfl) rfl ⟨Nat.le_refl _, Nat.le_refl _⟩ d_Ma_endStart_50 (fun s_6 H locs h hP hD hS => ?_)
    exact hret _ _ _ _ _ _ ls h hP hD hS (Nat.le_refl _) (Nat.le_refl _) d_Ma_endStart_53
  refine lv_icmp_ne (tgt := 43) G.1 G.2.1 d_Ma_endStart_36 (by decide) (fun c36 => ?_) (fun c36 => ?_)
  · skip
    have h := h.1 c36
    refine lv_bipush (v := 6) G.1 G.2.1 d_Ma_endStart_43 (by decide) ?_
    exact J_45 s_4 v2 x_2 6 H locs h hP hD hS ls (lv_sub hl [3, 0] rfl)
  · skip
    have h := h.2 c36
    refine lv_iconst (v := 5) G.1 G.2.1 d_Ma_endStart_39 (by decide) ?_
    refine W.eq (g2 := F0 m 40 ls [.int 5, .ref (ad a0)]) rfl ?_
    refine lv_goto (tgt := 45) G.1 G.2.1 d_Ma_endStart_40 (by decide) ?_
    exact J_45 s_4 v2 x_2 5 H locs h hP hD hS ls (lv_sub hl [3, 0] rfl)
theorem q1885 : Cond.methodLink "ClassWorks$Machine" 319 y_Hp_classOf ∈ lw_ok := lw_okmem (List.mem_of_getElem? (i := 1885) (by decide +kernel)) rfl
theorem q1888 : Cond.code y_Hp_classOf b_Hp_classOf 3 (some .int) ∈ lw_ok := lw_okmem (List.mem_of_getElem? (i := 1888) (by decide +kernel)) rfl
theorem q1886 : Cond.instanceMethod y_Hp_classOf ∈ lw_ok := lw_okmem (List.mem_of_getElem? (i := 1886) (by decide +kernel)) rfl
theorem q1887 : Cond.selects y_Hp_classOf.cls y_Hp_classOf y_Hp_classOf ∈ lw_ok := lw_okmem (List.mem_of_getElem? (i := 1887) (by decide +kernel)) rfl
theorem w9_Hp_classOf : CWv y_Hp_classOf b_Hp_classOf 3 (some .int) 1 ∧ Cond.instanceMethod y_Hp_classOf ∈ lw_ok ∧ Cond.selects y_Hp_classOf.cls y_Hp_classOf y_Hp_classOf ∈ lw_ok := ⟨⟨q1888, q346, by decide +kernel, by decide +kernel, by decide +kernel⟩, q1886, q1887⟩
def y_Ma_endRun : MethodName := ⟨"ClassWorks$Machine", "endRun", "(LClassWorks$Runner;II)V"⟩
abbrev b_Ma_endRun : ByteArray := prog_6_method_43_code
theorem q995 : Cond.fieldLink "ClassWorks$Machine" 458 "ClassWorks$Runner" "endKind" "I" ∈ lw_ok := lw_okmem (List.mem_of_getElem? (i := 995) (by decide +kernel)) rfl
theorem q1000 : Cond.fieldLink "ClassWorks$Machine" 321 "ClassWorks$Runner" "endClass" "I" ∈ lw_ok := lw_okmem (List.mem_of_getElem? (i := 1000) (by decide +kernel)) rfl
theorem q998 : Cond.fieldLink "ClassWorks$Machine" 461 "ClassWorks$Runner" "endNumber" "I" ∈ lw_ok := lw_okmem (List.mem_of_getElem? (i := 998) (by decide +kernel)) rfl
theorem d_Ma_endRun_0 : decode b_Ma_endRun 0 = .ok (.aload_n 1, 1) := by decide +kernel
theorem d_Ma_endRun_1 : decode b_Ma_endRun 1 = .ok (.iconst 2, 1) := by decide +kernel
theorem d_Ma_endRun_2 : decode b_Ma_endRun 2 = .ok (.putfield 105, 3) := by decide +kernel
theorem d_Ma_endRun_5 : decode b_Ma_endRun 5 = .ok (.iload_n 2, 1) := by decide +kernel
theorem d_Ma_endRun_6 : decode b_Ma_endRun 6 = .ok (.bipush 58, 2) := by decide +kernel
theorem d_Ma_endRun_8 : decode b_Ma_endRun 8 = .ok (.if_icmp .ne 16, 3) := by decide +kernel
theorem d_Ma_endRun_11 : decode b_Ma_endRun 11 = .ok (.aload_n 1, 1) := by decide +kernel
theorem d_Ma_endRun_12 : decode b_Ma_endRun 12 = .ok (.iconst 1, 1) := by decide +kernel
theorem d_Ma_endRun_13 : decode b_Ma_endRun 13 = .ok (.putfield 458, 3) := by decide +kernel
theorem d_Ma_endRun_16 : decode b_Ma_endRun 16 = .ok (.aload_n 1, 1) := by decide +kernel
theorem d_Ma_endRun_17 : decode b_Ma_endRun 17 = .ok (.iload_n 3, 1) := by decide +kernel
theorem d_Ma_endRun_18 : decode b_Ma_endRun 18 = .ok (.putfield 461, 3) := by decide +kernel
theorem d_Ma_endRun_21 : decode b_Ma_endRun 21 = .ok (.goto 61, 3) := by decide +kernel
theorem d_Ma_endRun_24 : decode b_Ma_endRun 24 = .ok (.iload_n 2, 1) := by decide +kernel
theorem d_Ma_endRun_25 : decode b_Ma_endRun 25 = .ok (.bipush 59, 2) := by decide +kernel
theorem d_Ma_endRun_27 : decode b_Ma_endRun 27 = .ok (.if_icmp .ne 55, 3) := by decide +kernel
theorem d_Ma_endRun_30 : decode b_Ma_endRun 30 = .ok (.aload_n 0, 1) := by decide +kernel
theorem d_Ma_endRun_31 : decode b_Ma_endRun 31 = .ok (.getfield 12, 3) := by decide +kernel
theorem d_Ma_endRun_34 : decode b_Ma_endRun 34 = .ok (.iload_n 3, 1) := by decide +kernel
theorem d_Ma_endRun_35 : decode b_Ma_endRun 35 = .ok (.invokevirtual 319, 3) := by decide +kernel
theorem d_Ma_endRun_38 : decode b_Ma_endRun 38 = .ok (.istore 4, 2) := by decide +kernel
theorem d_Ma_endRun_40 : decode b_Ma_endRun 40 = .ok (.aload_n 1, 1) := by decide +kernel
theorem d_Ma_endRun_41 : decode b_Ma_endRun 41 = .ok (.iload_n 3, 1) := by decide +kernel
theorem d_Ma_endRun_42 : decode b_Ma_endRun 42 = .ok (.ifCond .ne 7, 3) := by decide +kernel
theorem d_Ma_endRun_45 : decode b_Ma_endRun 45 = .ok (.iconst 2, 1) := by decide +kernel
theorem d_Ma_endRun_46 : decode b_Ma_endRun 46 = .ok (.goto 14, 3) := by decide +kernel
theorem d_Ma_endRun_49 : decode b_Ma_endRun 49 = .ok (.iload 4, 2) := by decide +kernel
theorem d_Ma_endRun_51 : decode b_Ma_endRun 51 = .ok (.iconst (-1), 1) := by decide +kernel
theorem d_Ma_endRun_52 : decode b_Ma_endRun 52 = .ok (.if_icmp .ne 7, 3) := by decide +kernel
theorem d_Ma_endRun_55 : decode b_Ma_endRun 55 = .ok (.iconst 3, 1) := by decide +kernel
theorem d_Ma_endRun_56 : decode b_Ma_endRun 56 = .ok (.goto 4, 3) := by decide +kernel
theorem d_Ma_endRun_59 : decode b_Ma_endRun 59 = .ok (.iconst 4, 1) := by decide +kernel
theorem d_Ma_endRun_60 : decode b_Ma_endRun 60 = .ok (.putfield 458, 3) := by decide +kernel
theorem d_Ma_endRun_63 : decode b_Ma_endRun 63 = .ok (.aload_n 1, 1) := by decide +kernel
theorem d_Ma_endRun_64 : decode b_Ma_endRun 64 = .ok (.aload_n 1, 1) := by decide +kernel
theorem d_Ma_endRun_65 : decode b_Ma_endRun 65 = .ok (.getfield 458, 3) := by decide +kernel
theorem d_Ma_endRun_68 : decode b_Ma_endRun 68 = .ok (.iconst 4, 1) := by decide +kernel
theorem d_Ma_endRun_69 : decode b_Ma_endRun 69 = .ok (.if_icmp .ne 8, 3) := by decide +kernel
theorem d_Ma_endRun_72 : decode b_Ma_endRun 72 = .ok (.iload 4, 2) := by decide +kernel
theorem d_Ma_endRun_74 : decode b_Ma_endRun 74 = .ok (.goto 5, 3) := by decide +kernel
theorem d_Ma_endRun_77 : decode b_Ma_endRun 77 = .ok (.bipush (-2), 2) := by decide +kernel
theorem d_Ma_endRun_79 : decode b_Ma_endRun 79 = .ok (.putfield 321, 3) := by decide +kernel
theorem d_Ma_endRun_82 : decode b_Ma_endRun 82 = .ok (.return_, 1) := by decide +kernel
abbrev ru_Ma_endRun : Room := { frames := 1, cells := 0, slots := 0, locals := 22 }
def wj_Ma_endRun_82 (y : Ly) (Post : St → Prop) (a0 : Nat) (a1 : Nat) (s_j82 : St) : Prop := Post s_j82
def wj_Ma_endRun_79 (y : Ly) (Post : St → Prop) (a0 : Nat) (a1 : Nat) (s_j79 : St) (z1j79 : Int32) : Prop := xP (uV s_j79 a1 8 z1j79) (fun s_5 : St => wj_Ma_endRun_82 y Post a0 a1 s_5)
def wj_Ma_endRun_60 (y : Ly) (Post : St → Prop) (a0 : Nat) (a1 : Nat) (s_j60 : St) (x4j60 : Int32) (z1j60 : Int32) : Prop := xP (uV s_j60 a1 6 z1j60) (fun s_4 : St => ((¬ (sV s_4 a1 6) = 4 → wj_Ma_endRun_79 y Post a0 a1 s_4 (-2)) ∧ ((sV s_4 a1 6) = 4 → wj_Ma_endRun_79 y Post a0 a1 s_4 x4j60)))
def wu_Ma_endRun (y : Ly) (Post : St → Prop) (σ : St) (a0 : Nat) (a1 : Nat) (v2 : Int32) (v3 : Int32) : Prop := xP (uV σ a1 3 2) (fun s_1 : St => ((¬ v2 = 58 → ((¬ v2 = 59 → wj_Ma_endRun_82 y Post a0 a1 s_1) ∧ (v2 = 59 → wu_Hp_classOf y (fun (s_3 : St) (r_2 : Int32) => ((¬ v3 = 0 → ((¬ r_2 = (-1) → wj_Ma_endRun_60 y Post a0 a1 s_3 r_2 4) ∧ (r_2 = (-1) → wj_Ma_endRun_60 y Post a0 a1 s_3 r_2 3))) ∧ (v3 = 0 → wj_Ma_endRun_60 y Post a0 a1 s_3 r_2 2))) s_1 (lk a0 1) v3))) ∧ (v2 = 58 → xP (uV s_1 a1 6 1) (fun s_6 : St => xP (uV s_6 a1 7 v3) (fun s_7 : St => wj_Ma_endRun_82 y Post a0 a1 s_7)))))
set_option maxHeartbeats 4000000 in
set_option maxRecDepth 100000 in
theorem cu_Ma_endRun (l : Launch) (D : va_G) (g : Nat → ClassId) (ad : Nat → Nat) (y : Ly) (Post : St → Prop) (σ : St) (a0 : Nat) (a1 : Nat) (v2 : Int32) (v3 : Int32) (sz : Nat) (h_a0 : cl a0 = 4) (h_a1 : cl a1 = 7) (h : wu_Ma_endRun y Post σ a0 a1 v2 v3) : Met l y_Ma_endRun (mw y_Ma_endRun b_Ma_endRun 5 (none)) ru_Ma_endRun (PC g D [] [.ref (ad a0), .ref (ad a1), .int v2, .int v3] sz (ws g ad y σ)) (va_Qv (fun u : St => Post u) (QW D (va_A (ws g ad y σ) sz) (fun u => ws g ad y u)) (va_A (ws g ad y σ) sz)) 0 0 (va_A (ws g ad y σ) sz) := by
  refine ofV (by decide +kernel) (Nat.le_of_ble_eq_true rfl) ?_
  intro p e s m args below meth c A Q ls H locs G hsz hP hD hS hl hret
  subst hsz
  have hl : lv_has ls 5 [(0, .ref (ad a0)), (1, .ref (ad a1)), (2, .int v2), (3, .int v3)] := hl
  unfold wu_Ma_endRun at h
  refine lv_aload_n G.1 G.2.1 d_Ma_endRun_0 rfl (lv_at hl 1 rfl) ?_
  refine lv_iconst (v := 2) G.1 G.2.1 d_Ma_endRun_1 (by decide) ?_
  refine upf G hP hD hS h 3 putV h_a1 iRu tRu tRu_ok nRu rfl (by decide) rfl q986 rfl rfl fV rfl rfl d_Ma_endRun_2 (fun s_1 H locs h hP hD hS => ?_)
  refine lv_iload_n G.1 G.2.1 d_Ma_endRun_5 rfl (lv_at hl 2 rfl) ?_
  refine lv_bipush (v := 58) G.1 G.2.1 d_Ma_endRun_6 (by decide) ?_
  have J_82 : ∀ (s_j82 : St) (H : Heap) (locs : List Loc), wj_Ma_endRun_82 y Post a0 a1 s_j82 → va_P D CL (ws g ad y s_j82) H → va_D A (ws g ad y s_j82) → va_S A s.heap H locs → ∀ ls, lv_has ls 5 [] → W p l e ru_Ma_endRun s m args below meth c H locs 0 0 Q (F0 m 82 ls []) := by
    intro s_j82 H locs h hP hD hS ls hl
    unfold wj_Ma_endRun_82 at h
    exact hret _ _ _ _ _ _ ls h hP hD hS (Nat.le_refl _) (Nat.le_refl _) d_Ma_endRun_82
  refine lv_icmp_ne (tgt := 24) G.1 G.2.1 d_Ma_endRun_8 (by decide) (fun c8 => ?_) (fun c8 => ?_)
  · skip
    have h := h.1 c8
    refine lv_iload_n G.1 G.2.1 d_Ma_endRun_24 rfl (lv_at hl 2 rfl) ?_
    refine lv_bipush (v := 59) G.1 G.2.1 d_Ma_endRun_25 (by decide) ?_
    refine lv_icmp_ne (tgt := 82) G.1 G.2.1 d_Ma_endRun_27 (by decide) (fun c27 => ?_) (fun c27 => ?_)
    · skip
      have h := h.1 c27
      exact J_82 s_1 H locs h hP hD hS ls (lv_sub hl [] rfl)
    · skip
      have h := h.2 c27
      refine lv_aload_n G.1 G.2.1 d_Ma_endRun_30 rfl (lv_at hl 0 rfl) ?_
      refine ugf (v := .ref (ad (lk a0 1))) G hP h_a0 iMa rfl 1 (by decide) rfl q1067 rfl rfl d_Ma_endRun_31 ?_
      refine W.eq (g2 := F0 m 34 ls [.ref (ad (lk a0 1))]) rfl ?_
      refine lv_iload_n G.1 G.2.1 d_Ma_endRun_34 rfl (lv_at hl 3 rfl) ?_
      refine ucVi (As := [.int v3]) (rest := []) G hP hD hS (cu_Hp_classOf l D g ad y _ s_1 (lk a0 1) v3 H.size (lk_4_1 h_a0) h) w9_Hp_classOf q1885 ⟨Nat.le_of_ble_eq_true rfl, Nat.le_of_ble_eq_true rfl⟩ rfl rfl (lk_4_1 h_a0) (q := (RHp, THp, 15)) rfl rfl hl.1 rfl (Nat.le_of_ble_eq_true rfl) rfl ⟨Nat.le_refl _, Nat.le_refl _⟩ d_Ma_endRun_35 (fun r_2 s_3 H locs h hP hD hS => ?_)
      refine lv_istore (lv' := [(4, .int r_2), (0, .ref (ad a0)), (1, .ref (ad a1)), (2, .int v2), (3, .int v3)]) G.1 G.2.1 d_Ma_endRun_38 hl (by decide) rfl (fun ls hl => ?_)
      refine lv_aload_n G.1 G.2.1 d_Ma_endRun_40 rfl (lv_at hl 2 rfl) ?_
      refine lv_iload_n G.1 G.2.1 d_Ma_endRun_41 rfl (lv_at hl 4 rfl) ?_
      have J_60 : ∀ (s_j60 : St) (x4j60 : Int32) (z1j60 : Int32) (H : Heap) (locs : List Loc), wj_Ma_endRun_60 y Post a0 a1 s_j60 x4j60 z1j60 → va_P D CL (ws g ad y s_j60) H → va_D A (ws g ad y s_j60) → va_S A s.heap H locs → ∀ ls, lv_has ls 5 [(1, .ref (ad a1)), (4, .int x4j60)] → W p l e ru_Ma_endRun s m args below meth c H locs 0 0 Q (F0 m 60 ls [.int z1j60, .ref (ad a1)]) := by
        intro s_j60 x4j60 z1j60 H locs h hP hD hS ls hl
        unfold wj_Ma_endRun_60 at h
        refine upf G hP hD hS h 6 putV h_a1 iRu tRu tRu_ok nRu rfl (by decide) rfl q995 rfl rfl fV rfl rfl d_Ma_endRun_60 (fun s_4 H locs h hP hD hS => ?_)
        refine lv_aload_n G.1 G.2.1 d_Ma_endRun_63 rfl (lv_at hl 0 rfl) ?_
        refine lv_aload_n G.1 G.2.1 d_Ma_endRun_64 rfl (lv_at hl 0 rfl) ?_
        refine ugf (v := .int (sV s_4 a1 6)) G hP h_a1 iRu rfl 6 (by decide) rfl q995 rfl rfl d_Ma_endRun_65 ?_
        refine lv_iconst (v := 4) G.1 G.2.1 d_Ma_endRun_68 (by decide) ?_
        have J_79 : ∀ (s_j79 : St) (z1j79 : Int32) (H : Heap) (locs : List Loc), wj_Ma_endRun_79 y Post a0 a1 s_j79 z1j79 → va_P D CL (ws g ad y s_j79) H → va_D A (ws g ad y s_j79) → va_S A s.heap H locs → ∀ ls, lv_has ls 5 [] → W p l e ru_Ma_endRun s m args below meth c H locs 0 0 Q (F0 m 79 ls [.int z1j79, .ref (ad a1)]) := by
          intro s_j79 z1j79 H locs h hP hD hS ls hl
          unfold wj_Ma_endRun_79 at h
          refine upf G hP hD hS h 8 putV h_a1 iRu tRu tRu_ok nRu rfl (by decide) rfl q1000 rfl rfl fV rfl rfl d_Ma_endRun_79 (fun s_5 H locs h hP hD hS => ?_)
          exact J_82 s_5 H locs h hP hD hS ls (lv_sub hl [] rfl)
        refine lv_icmp_ne (tgt := 77) G.1 G.2.1 d_Ma_endRun_69 (by decide) (fun c69 => ?_) (fun c69 => ?_)
        · skip
          have h := h.1 c69
          refine lv_bipush (v := (-2)) G.1 G.2.1 d_Ma_endRun_77 (by decide) ?_
          exact J_79 s_4 (-2) H locs h hP hD hS ls (lv_sub hl [] rfl)
        · skip
          have h := h.2 c69
          refine lv_iload G.1 G.2.1 d_Ma_endRun_72 (lv_at hl 1 rfl) ?_
          refine lv_goto (tgt := 79) G.1 G.2.1 d_Ma_endRun_74 (by decide) ?_
          exact J_79 s_4 x4j60 H locs h hP hD hS ls (lv_sub hl [] rfl)
      refine lv_if_ne (tgt := 49) G.1 G.2.1 d_Ma_endRun_42 (by decide) (fun c42 => ?_) (fun c42 => ?_)
      · skip
        have h := h.1 c42
        refine lv_iload G.1 G.2.1 d_Ma_endRun_49 (lv_at hl 0 rfl) ?_
        refine lv_iconst (v := (-1)) G.1 G.2.1 d_Ma_endRun_51 (by decide) ?_
        refine lv_icmp_ne (tgt := 59) G.1 G.2.1 d_Ma_endRun_52 (by decide) (fun c52 => ?_) (fun c52 => ?_)
        · skip
          have h := h.1 c52
          refine lv_iconst (v := 4) G.1 G.2.1 d_Ma_endRun_59 (by decide) ?_
          exact J_60 s_3 r_2 4 H locs h hP hD hS ls (lv_sub hl [2, 0] rfl)
        · skip
          have h := h.2 c52
          refine lv_iconst (v := 3) G.1 G.2.1 d_Ma_endRun_55 (by decide) ?_
          refine lv_goto (tgt := 60) G.1 G.2.1 d_Ma_endRun_56 (by decide) ?_
          exact J_60 s_3 r_2 3 H locs h hP hD hS ls (lv_sub hl [2, 0] rfl)
      · skip
        have h := h.2 c42
        refine lv_iconst (v := 2) G.1 G.2.1 d_Ma_endRun_45 (by decide) ?_
        refine lv_goto (tgt := 60) G.1 G.2.1 d_Ma_endRun_46 (by decide) ?_
        exact J_60 s_3 r_2 2 H locs h hP hD hS ls (lv_sub hl [2, 0] rfl)
  · skip
    have h := h.2 c8
    refine lv_aload_n G.1 G.2.1 d_Ma_endRun_11 rfl (lv_at hl 1 rfl) ?_
    refine lv_iconst (v := 1) G.1 G.2.1 d_Ma_endRun_12 (by decide) ?_
    refine upf G hP hD hS h 6 putV h_a1 iRu tRu tRu_ok nRu rfl (by decide) rfl q995 rfl rfl fV rfl rfl d_Ma_endRun_13 (fun s_6 H locs h hP hD hS => ?_)
    refine lv_aload_n G.1 G.2.1 d_Ma_endRun_16 rfl (lv_at hl 1 rfl) ?_
    refine lv_iload_n G.1 G.2.1 d_Ma_endRun_17 rfl (lv_at hl 3 rfl) ?_
    refine W.eq (g2 := F0 m 18 ls [.int v3, .ref (ad a1)]) rfl ?_
    refine upf G hP hD hS h 7 putV h_a1 iRu tRu tRu_ok nRu rfl (by decide) rfl q998 rfl rfl fV rfl rfl d_Ma_endRun_18 (fun s_7 H locs h hP hD hS => ?_)
    refine lv_goto (tgt := 82) G.1 G.2.1 d_Ma_endRun_21 (by decide) ?_
    exact J_82 s_7 H locs h hP hD hS ls (lv_sub hl [] rfl)
def y_Ru_push : MethodName := ⟨"ClassWorks$Runner", "push", "(J)V"⟩
abbrev b_Ru_push : ByteArray := prog_9_method_12_code
theorem d_Ru_push_0 : decode b_Ru_push 0 = .ok (.aload_n 0, 1) := by decide +kernel
theorem d_Ru_push_1 : decode b_Ru_push 1 = .ok (.getfield 59, 3) := by decide +kernel
theorem d_Ru_push_4 : decode b_Ru_push 4 = .ok (.aload_n 0, 1) := by decide +kernel
theorem d_Ru_push_5 : decode b_Ru_push 5 = .ok (.getfield 44, 3) := by decide +kernel
theorem d_Ru_push_8 : decode b_Ru_push 8 = .ok (.iconst 1, 1) := by decide +kernel
theorem d_Ru_push_9 : decode b_Ru_push 9 = .ok (.isub, 1) := by decide +kernel
theorem d_Ru_push_10 : decode b_Ru_push 10 = .ok (.bipush 40, 2) := by decide +kernel
theorem d_Ru_push_12 : decode b_Ru_push 12 = .ok (.imul, 1) := by decide +kernel
theorem d_Ru_push_13 : decode b_Ru_push 13 = .ok (.bipush 20, 2) := by decide +kernel
theorem d_Ru_push_15 : decode b_Ru_push 15 = .ok (.iadd, 1) := by decide +kernel
theorem d_Ru_push_16 : decode b_Ru_push 16 = .ok (.aload_n 0, 1) := by decide +kernel
theorem d_Ru_push_17 : decode b_Ru_push 17 = .ok (.getfield 56, 3) := by decide +kernel
theorem d_Ru_push_20 : decode b_Ru_push 20 = .ok (.aload_n 0, 1) := by decide +kernel
theorem d_Ru_push_21 : decode b_Ru_push 21 = .ok (.getfield 44, 3) := by decide +kernel
theorem d_Ru_push_24 : decode b_Ru_push 24 = .ok (.iconst 1, 1) := by decide +kernel
theorem d_Ru_push_25 : decode b_Ru_push 25 = .ok (.isub, 1) := by decide +kernel
theorem d_Ru_push_26 : decode b_Ru_push 26 = .ok (.iaload, 1) := by decide +kernel
theorem d_Ru_push_27 : decode b_Ru_push 27 = .ok (.iadd, 1) := by decide +kernel
theorem d_Ru_push_28 : decode b_Ru_push 28 = .ok (.lload_n 1, 1) := by decide +kernel
theorem d_Ru_push_29 : decode b_Ru_push 29 = .ok (.lastore, 1) := by decide +kernel
theorem d_Ru_push_30 : decode b_Ru_push 30 = .ok (.aload_n 0, 1) := by decide +kernel
theorem d_Ru_push_31 : decode b_Ru_push 31 = .ok (.getfield 56, 3) := by decide +kernel
theorem d_Ru_push_34 : decode b_Ru_push 34 = .ok (.aload_n 0, 1) := by decide +kernel
theorem d_Ru_push_35 : decode b_Ru_push 35 = .ok (.getfield 44, 3) := by decide +kernel
theorem d_Ru_push_38 : decode b_Ru_push 38 = .ok (.iconst 1, 1) := by decide +kernel
theorem d_Ru_push_39 : decode b_Ru_push 39 = .ok (.isub, 1) := by decide +kernel
theorem d_Ru_push_40 : decode b_Ru_push 40 = .ok (.dup2, 1) := by decide +kernel
theorem d_Ru_push_41 : decode b_Ru_push 41 = .ok (.iaload, 1) := by decide +kernel
theorem d_Ru_push_42 : decode b_Ru_push 42 = .ok (.iconst 1, 1) := by decide +kernel
theorem d_Ru_push_43 : decode b_Ru_push 43 = .ok (.iadd, 1) := by decide +kernel
theorem d_Ru_push_44 : decode b_Ru_push 44 = .ok (.iastore, 1) := by decide +kernel
theorem d_Ru_push_45 : decode b_Ru_push 45 = .ok (.return_, 1) := by decide +kernel
abbrev ru_Ru_push : Room := { frames := 0, cells := 0, slots := 0, locals := 0 }
def wu_Ru_push (y : Ly) (Post : St → Prop) (σ : St) (a0 : Nat) (v1 : Int64) : Prop := xA y σ a0 14 ((sV σ a0 10) - 1) (fun x_1 : Int32 => xT y σ a0 15 (((((sV σ a0 10) - 1) * 40) + 20) + x_1) v1 (fun s_2 : St => xA y s_2 a0 14 ((sV s_2 a0 10) - 1) (fun x_3 : Int32 => xS y s_2 a0 14 ((sV s_2 a0 10) - 1) (x_3 + 1) (fun s_4 : St => Post s_4))))
set_option maxHeartbeats 4000000 in
set_option maxRecDepth 100000 in
theorem cu_Ru_push (l : Launch) (D : va_G) (g : Nat → ClassId) (ad : Nat → Nat) (y : Ly) (Post : St → Prop) (σ : St) (a0 : Nat) (v1 : Int64) (sz : Nat) (h_a0 : cl a0 = 7) (h : wu_Ru_push y Post σ a0 v1) : Met l y_Ru_push (mw y_Ru_push b_Ru_push 3 (none)) ru_Ru_push (PC g D [] [.ref (ad a0), .long v1] sz (ws g ad y σ)) (va_Qv (fun u : St => Post u) (QW D (va_A (ws g ad y σ) sz) (fun u => ws g ad y u)) (va_A (ws g ad y σ) sz)) 0 0 (va_A (ws g ad y σ) sz) := by
  refine ofV (by decide +kernel) (Nat.le_of_ble_eq_true rfl) ?_
  intro p e s m args below meth c A Q ls H locs G hsz hP hD hS hl hret
  subst hsz
  have hl : lv_has ls 3 [(0, .ref (ad a0)), (1, .long v1)] := hl
  unfold wu_Ru_push at h
  refine lv_aload_n G.1 G.2.1 d_Ru_push_0 rfl (lv_at hl 0 rfl) ?_
  refine ugf (v := .ref (yP y a0 15)) G hP h_a0 iRu rfl 15 (by decide) rfl q1020 rfl rfl d_Ru_push_1 ?_
  refine lv_aload_n G.1 G.2.1 d_Ru_push_4 rfl (lv_at hl 0 rfl) ?_
  refine ugf (v := .int (sV σ a0 10)) G hP h_a0 iRu rfl 10 (by decide) rfl q1005 rfl rfl d_Ru_push_5 ?_
  refine lv_iconst (v := 1) G.1 G.2.1 d_Ru_push_8 (by decide) ?_
  refine lv_isub G.1 G.2.1 d_Ru_push_9 ?_
  refine lv_bipush (v := 40) G.1 G.2.1 d_Ru_push_10 (by decide) ?_
  refine lv_imul G.1 G.2.1 d_Ru_push_12 ?_
  refine lv_bipush (v := 20) G.1 G.2.1 d_Ru_push_13 (by decide) ?_
  refine lv_iadd G.1 G.2.1 d_Ru_push_15 ?_
  refine lv_aload_n G.1 G.2.1 d_Ru_push_16 rfl (lv_at hl 0 rfl) ?_
  refine W.eq (g2 := F0 m 17 ls [.ref (ad a0), .int ((((sV σ a0 10) - 1) * 40) + 20), .ref (yP y a0 15)]) rfl ?_
  refine ugf (v := .ref (yP y a0 14)) G hP h_a0 iRu rfl 14 (by decide) rfl q1017 rfl rfl d_Ru_push_17 ?_
  refine lv_aload_n G.1 G.2.1 d_Ru_push_20 rfl (lv_at hl 0 rfl) ?_
  refine ugf (v := .int (sV σ a0 10)) G hP h_a0 iRu rfl 10 (by decide) rfl q1005 rfl rfl d_Ru_push_21 ?_
  refine lv_iconst (v := 1) G.1 G.2.1 d_Ru_push_24 (by decide) ?_
  refine lv_isub G.1 G.2.1 d_Ru_push_25 ?_
  refine uiald G hP (kdp h_a0 rfl) (typ h_a0 rfl) h d_Ru_push_26 (fun x_1 h => ?_)
  refine lv_iadd G.1 G.2.1 d_Ru_push_27 ?_
  refine lv_lload_n G.1 G.2.1 d_Ru_push_28 rfl (lv_at hl 1 rfl) ?_
  refine ulast G hP hD hS (kdp h_a0 rfl) (typ h_a0 rfl) h d_Ru_push_29 (fun s_2 H locs h hP hD hS => ?_)
  refine lv_aload_n G.1 G.2.1 d_Ru_push_30 rfl (lv_at hl 0 rfl) ?_
  refine ugf (v := .ref (yP y a0 14)) G hP h_a0 iRu rfl 14 (by decide) rfl q1017 rfl rfl d_Ru_push_31 ?_
  refine lv_aload_n G.1 G.2.1 d_Ru_push_34 rfl (lv_at hl 0 rfl) ?_
  refine W.eq (g2 := F0 m 35 ls [.ref (ad a0), .ref (yP y a0 14)]) rfl ?_
  refine ugf (v := .int (sV s_2 a0 10)) G hP h_a0 iRu rfl 10 (by decide) rfl q1005 rfl rfl d_Ru_push_35 ?_
  refine lv_iconst (v := 1) G.1 G.2.1 d_Ru_push_38 (by decide) ?_
  refine lv_isub G.1 G.2.1 d_Ru_push_39 ?_
  refine lv_dup2_11 G.1 G.2.1 d_Ru_push_40 rfl rfl ?_
  refine uiald G hP (kdp h_a0 rfl) (typ h_a0 rfl) h d_Ru_push_41 (fun x_3 h => ?_)
  refine lv_iconst (v := 1) G.1 G.2.1 d_Ru_push_42 (by decide) ?_
  refine lv_iadd G.1 G.2.1 d_Ru_push_43 ?_
  refine uiast G hP hD hS (kdp h_a0 rfl) (typ h_a0 rfl) h d_Ru_push_44 (fun s_4 H locs h hP hD hS => ?_)
  exact hret _ _ _ _ _ _ ls h hP hD hS (Nat.le_refl _) (Nat.le_refl _) d_Ru_push_45
theorem q1907 : Cond.methodLink "ClassWorks$Machine" 301 y_Ma_markFrame ∈ lw_ok := lw_okmem (List.mem_of_getElem? (i := 1907) (by decide +kernel)) rfl
theorem q1910 : Cond.code y_Ma_markFrame b_Ma_markFrame 4 (none) ∈ lw_ok := lw_okmem (List.mem_of_getElem? (i := 1910) (by decide +kernel)) rfl
theorem q1909 : Cond.instanceMethod y_Ma_markFrame ∈ lw_ok := lw_okmem (List.mem_of_getElem? (i := 1909) (by decide +kernel)) rfl
theorem q91 : Cond.selects y_Ma_markFrame.cls y_Ma_markFrame y_Ma_markFrame ∈ lw_ok := lw_okmem (List.mem_of_getElem? (i := 91) (by decide +kernel)) rfl
theorem w9_Ma_markFrame : CWv y_Ma_markFrame b_Ma_markFrame 4 (none) 2 ∧ Cond.instanceMethod y_Ma_markFrame ∈ lw_ok ∧ Cond.selects y_Ma_markFrame.cls y_Ma_markFrame y_Ma_markFrame ∈ lw_ok := ⟨⟨q1910, q344, by decide +kernel, by decide +kernel, by decide +kernel⟩, q1909, q91⟩
theorem q1919 : Cond.methodLink "ClassWorks$Machine" 342 y_Ma_inStart ∈ lw_ok := lw_okmem (List.mem_of_getElem? (i := 1919) (by decide +kernel)) rfl
theorem q1922 : Cond.code y_Ma_inStart b_Ma_inStart 3 (some (.boolean)) ∈ lw_ok := lw_okmem (List.mem_of_getElem? (i := 1922) (by decide +kernel)) rfl
theorem q1921 : Cond.instanceMethod y_Ma_inStart ∈ lw_ok := lw_okmem (List.mem_of_getElem? (i := 1921) (by decide +kernel)) rfl
theorem q94 : Cond.selects y_Ma_inStart.cls y_Ma_inStart y_Ma_inStart ∈ lw_ok := lw_okmem (List.mem_of_getElem? (i := 94) (by decide +kernel)) rfl
theorem w9_Ma_inStart : CWv y_Ma_inStart b_Ma_inStart 3 (some (.boolean)) 1 ∧ Cond.instanceMethod y_Ma_inStart ∈ lw_ok ∧ Cond.selects y_Ma_inStart.cls y_Ma_inStart y_Ma_inStart ∈ lw_ok := ⟨⟨q1922, q344, by decide +kernel, by decide +kernel, by decide +kernel⟩, q1921, q94⟩
theorem q1932 : Cond.methodLink "ClassWorks$Machine" 390 y_Ru_push ∈ lw_ok := lw_okmem (List.mem_of_getElem? (i := 1932) (by decide +kernel)) rfl
theorem q1935 : Cond.code y_Ru_push b_Ru_push 3 (none) ∈ lw_ok := lw_okmem (List.mem_of_getElem? (i := 1935) (by decide +kernel)) rfl
theorem q1933 : Cond.instanceMethod y_Ru_push ∈ lw_ok := lw_okmem (List.mem_of_getElem? (i := 1933) (by decide +kernel)) rfl
theorem q1934 : Cond.selects y_Ru_push.cls y_Ru_push y_Ru_push ∈ lw_ok := lw_okmem (List.mem_of_getElem? (i := 1934) (by decide +kernel)) rfl
theorem w9_Ru_push : CWv y_Ru_push b_Ru_push 3 (none) 1 ∧ Cond.instanceMethod y_Ru_push ∈ lw_ok ∧ Cond.selects y_Ru_push.cls y_Ru_push y_Ru_push ∈ lw_ok := ⟨⟨q1935, q347, by decide +kernel, by decide +kernel, by decide +kernel⟩, q1933, q1934⟩
theorem q1928 : Cond.methodLink "ClassWorks$Machine" 455 y_Ma_endRun ∈ lw_ok := lw_okmem (List.mem_of_getElem? (i := 1928) (by decide +kernel)) rfl
theorem q1931 : Cond.code y_Ma_endRun b_Ma_endRun 5 (none) ∈ lw_ok := lw_okmem (List.mem_of_getElem? (i := 1931) (by decide +kernel)) rfl
theorem q1930 : Cond.instanceMethod y_Ma_endRun ∈ lw_ok := lw_okmem (List.mem_of_getElem? (i := 1930) (by decide +kernel)) rfl
theorem q96 : Cond.selects y_Ma_endRun.cls y_Ma_endRun y_Ma_endRun ∈ lw_ok := lw_okmem (List.mem_of_getElem? (i := 96) (by decide +kernel)) rfl
theorem w9_Ma_endRun : CWv y_Ma_endRun b_Ma_endRun 5 (none) 3 ∧ Cond.instanceMethod y_Ma_endRun ∈ lw_ok ∧ Cond.selects y_Ma_endRun.cls y_Ma_endRun y_Ma_endRun ∈ lw_ok := ⟨⟨q1931, q344, by decide +kernel, by decide +kernel, by decide +kernel⟩, q1930, q96⟩
theorem q1924 : Cond.methodLink "ClassWorks$Machine" 295 y_Ma_endStart ∈ lw_ok := lw_okmem (List.mem_of_getElem? (i := 1924) (by decide +kernel)) rfl
theorem q1927 : Cond.code y_Ma_endStart b_Ma_endStart 5 (none) ∈ lw_ok := lw_okmem (List.mem_of_getElem? (i := 1927) (by decide +kernel)) rfl
theorem q1926 : Cond.instanceMethod y_Ma_endStart ∈ lw_ok := lw_okmem (List.mem_of_getElem? (i := 1926) (by decide +kernel)) rfl
theorem q95 : Cond.selects y_Ma_endStart.cls y_Ma_endStart y_Ma_endStart ∈ lw_ok := lw_okmem (List.mem_of_getElem? (i := 95) (by decide +kernel)) rfl
theorem w9_Ma_endStart : CWv y_Ma_endStart b_Ma_endStart 5 (none) 3 ∧ Cond.instanceMethod y_Ma_endStart ∈ lw_ok ∧ Cond.selects y_Ma_endStart.cls y_Ma_endStart y_Ma_endStart ∈ lw_ok := ⟨⟨q1927, q344, by decide +kernel, by decide +kernel, by decide +kernel⟩, q1926, q95⟩
theorem q1898 : Cond.methodLink "ClassWorks$Machine" 394 y_Ru_pop ∈ lw_ok := lw_okmem (List.mem_of_getElem? (i := 1898) (by decide +kernel)) rfl
theorem q1901 : Cond.code y_Ru_pop b_Ru_pop 1 (some (.long)) ∈ lw_ok := lw_okmem (List.mem_of_getElem? (i := 1901) (by decide +kernel)) rfl
theorem q1899 : Cond.instanceMethod y_Ru_pop ∈ lw_ok := lw_okmem (List.mem_of_getElem? (i := 1899) (by decide +kernel)) rfl
theorem q1900 : Cond.selects y_Ru_pop.cls y_Ru_pop y_Ru_pop ∈ lw_ok := lw_okmem (List.mem_of_getElem? (i := 1900) (by decide +kernel)) rfl
theorem w9_Ru_pop : CWv y_Ru_pop b_Ru_pop 1 (some (.long)) 0 ∧ Cond.instanceMethod y_Ru_pop ∈ lw_ok ∧ Cond.selects y_Ru_pop.cls y_Ru_pop y_Ru_pop ∈ lw_ok := ⟨⟨q1901, q347, by decide +kernel, by decide +kernel, by decide +kernel⟩, q1899, q1900⟩
def y_Ma_endFrame : MethodName := ⟨"ClassWorks$Machine", "endFrame", "(LClassWorks$Runner;II)V"⟩
abbrev b_Ma_endFrame : ByteArray := prog_6_method_42_code
theorem d_Ma_endFrame_0 : decode b_Ma_endFrame 0 = .ok (.iload_n 3, 1) := by decide +kernel
theorem d_Ma_endFrame_1 : decode b_Ma_endFrame 1 = .ok (.bipush 57, 2) := by decide +kernel
theorem d_Ma_endFrame_3 : decode b_Ma_endFrame 3 = .ok (.if_icmp .ne 7, 3) := by decide +kernel
theorem d_Ma_endFrame_6 : decode b_Ma_endFrame 6 = .ok (.lconst 0, 1) := by decide +kernel
theorem d_Ma_endFrame_7 : decode b_Ma_endFrame 7 = .ok (.goto 7, 3) := by decide +kernel
theorem d_Ma_endFrame_10 : decode b_Ma_endFrame 10 = .ok (.aload_n 1, 1) := by decide +kernel
theorem d_Ma_endFrame_11 : decode b_Ma_endFrame 11 = .ok (.invokevirtual 394, 3) := by decide +kernel
theorem d_Ma_endFrame_14 : decode b_Ma_endFrame 14 = .ok (.lstore 4, 2) := by decide +kernel
theorem d_Ma_endFrame_16 : decode b_Ma_endFrame 16 = .ok (.aload_n 0, 1) := by decide +kernel
theorem d_Ma_endFrame_17 : decode b_Ma_endFrame 17 = .ok (.iconst 2, 1) := by decide +kernel
theorem d_Ma_endFrame_18 : decode b_Ma_endFrame 18 = .ok (.iload_n 2, 1) := by decide +kernel
theorem d_Ma_endFrame_19 : decode b_Ma_endFrame 19 = .ok (.invokevirtual 301, 3) := by decide +kernel
theorem d_Ma_endFrame_22 : decode b_Ma_endFrame 22 = .ok (.aload_n 0, 1) := by decide +kernel
theorem d_Ma_endFrame_23 : decode b_Ma_endFrame 23 = .ok (.aload_n 1, 1) := by decide +kernel
theorem d_Ma_endFrame_24 : decode b_Ma_endFrame 24 = .ok (.invokevirtual 342, 3) := by decide +kernel
theorem d_Ma_endFrame_27 : decode b_Ma_endFrame 27 = .ok (.istore 6, 2) := by decide +kernel
theorem d_Ma_endFrame_29 : decode b_Ma_endFrame 29 = .ok (.aload_n 1, 1) := by decide +kernel
theorem d_Ma_endFrame_30 : decode b_Ma_endFrame 30 = .ok (.dup, 1) := by decide +kernel
theorem d_Ma_endFrame_31 : decode b_Ma_endFrame 31 = .ok (.getfield 158, 3) := by decide +kernel
theorem d_Ma_endFrame_34 : decode b_Ma_endFrame 34 = .ok (.iconst 1, 1) := by decide +kernel
theorem d_Ma_endFrame_35 : decode b_Ma_endFrame 35 = .ok (.isub, 1) := by decide +kernel
theorem d_Ma_endFrame_36 : decode b_Ma_endFrame 36 = .ok (.putfield 158, 3) := by decide +kernel
theorem d_Ma_endFrame_39 : decode b_Ma_endFrame 39 = .ok (.iload 6, 2) := by decide +kernel
theorem d_Ma_endFrame_41 : decode b_Ma_endFrame 41 = .ok (.ifCond .eq 13, 3) := by decide +kernel
theorem d_Ma_endFrame_44 : decode b_Ma_endFrame 44 = .ok (.aload_n 0, 1) := by decide +kernel
theorem d_Ma_endFrame_45 : decode b_Ma_endFrame 45 = .ok (.aload_n 1, 1) := by decide +kernel
theorem d_Ma_endFrame_46 : decode b_Ma_endFrame 46 = .ok (.iload_n 2, 1) := by decide +kernel
theorem d_Ma_endFrame_47 : decode b_Ma_endFrame 47 = .ok (.iconst 2, 1) := by decide +kernel
theorem d_Ma_endFrame_48 : decode b_Ma_endFrame 48 = .ok (.invokevirtual 295, 3) := by decide +kernel
theorem d_Ma_endFrame_51 : decode b_Ma_endFrame 51 = .ok (.goto 49, 3) := by decide +kernel
theorem d_Ma_endFrame_54 : decode b_Ma_endFrame 54 = .ok (.aload_n 1, 1) := by decide +kernel
theorem d_Ma_endFrame_55 : decode b_Ma_endFrame 55 = .ok (.getfield 158, 3) := by decide +kernel
theorem d_Ma_endFrame_58 : decode b_Ma_endFrame 58 = .ok (.ifCond .ne 15, 3) := by decide +kernel
theorem d_Ma_endFrame_61 : decode b_Ma_endFrame 61 = .ok (.aload_n 0, 1) := by decide +kernel
theorem d_Ma_endFrame_62 : decode b_Ma_endFrame 62 = .ok (.aload_n 1, 1) := by decide +kernel
theorem d_Ma_endFrame_63 : decode b_Ma_endFrame 63 = .ok (.iload_n 3, 1) := by decide +kernel
theorem d_Ma_endFrame_64 : decode b_Ma_endFrame 64 = .ok (.lload 4, 2) := by decide +kernel
theorem d_Ma_endFrame_66 : decode b_Ma_endFrame 66 = .ok (.l2i, 1) := by decide +kernel
theorem d_Ma_endFrame_67 : decode b_Ma_endFrame 67 = .ok (.invokevirtual 455, 3) := by decide +kernel
theorem d_Ma_endFrame_70 : decode b_Ma_endFrame 70 = .ok (.goto 30, 3) := by decide +kernel
theorem d_Ma_endFrame_73 : decode b_Ma_endFrame 73 = .ok (.iload_n 3, 1) := by decide +kernel
theorem d_Ma_endFrame_74 : decode b_Ma_endFrame 74 = .ok (.bipush 57, 2) := by decide +kernel
theorem d_Ma_endFrame_76 : decode b_Ma_endFrame 76 = .ok (.if_icmp .eq 9, 3) := by decide +kernel
theorem d_Ma_endFrame_79 : decode b_Ma_endFrame 79 = .ok (.aload_n 1, 1) := by decide +kernel
theorem d_Ma_endFrame_80 : decode b_Ma_endFrame 80 = .ok (.lload 4, 2) := by decide +kernel
theorem d_Ma_endFrame_82 : decode b_Ma_endFrame 82 = .ok (.invokevirtual 390, 3) := by decide +kernel
theorem d_Ma_endFrame_85 : decode b_Ma_endFrame 85 = .ok (.aload_n 1, 1) := by decide +kernel
theorem d_Ma_endFrame_86 : decode b_Ma_endFrame 86 = .ok (.getfield 217, 3) := by decide +kernel
theorem d_Ma_endFrame_89 : decode b_Ma_endFrame 89 = .ok (.aload_n 1, 1) := by decide +kernel
theorem d_Ma_endFrame_90 : decode b_Ma_endFrame 90 = .ok (.getfield 158, 3) := by decide +kernel
theorem d_Ma_endFrame_93 : decode b_Ma_endFrame 93 = .ok (.iconst 1, 1) := by decide +kernel
theorem d_Ma_endFrame_94 : decode b_Ma_endFrame 94 = .ok (.isub, 1) := by decide +kernel
theorem d_Ma_endFrame_95 : decode b_Ma_endFrame 95 = .ok (.dup2, 1) := by decide +kernel
theorem d_Ma_endFrame_96 : decode b_Ma_endFrame 96 = .ok (.iaload, 1) := by decide +kernel
theorem d_Ma_endFrame_97 : decode b_Ma_endFrame 97 = .ok (.iconst 1, 1) := by decide +kernel
theorem d_Ma_endFrame_98 : decode b_Ma_endFrame 98 = .ok (.iadd, 1) := by decide +kernel
theorem d_Ma_endFrame_99 : decode b_Ma_endFrame 99 = .ok (.iastore, 1) := by decide +kernel
theorem d_Ma_endFrame_100 : decode b_Ma_endFrame 100 = .ok (.return_, 1) := by decide +kernel
abbrev ru_Ma_endFrame : Room := { frames := 2, cells := 0, slots := 0, locals := 49 }
def wj_Ma_endFrame_100 (y : Ly) (Post : St → Prop) (a0 : Nat) (a1 : Nat) (s_j100 : St) : Prop := Post s_j100
def wj_Ma_endFrame_85 (y : Ly) (Post : St → Prop) (a0 : Nat) (a1 : Nat) (s_j85 : St) : Prop := xA y s_j85 a1 13 ((sV s_j85 a1 10) - 1) (fun x_6 : Int32 => xS y s_j85 a1 13 ((sV s_j85 a1 10) - 1) (x_6 + 1) (fun s_7 : St => wj_Ma_endFrame_100 y Post a0 a1 s_7))
def wj_Ma_endFrame_14 (y : Ly) (Post : St → Prop) (a0 : Nat) (a1 : Nat) (s_j14 : St) (x2j14 : Int32) (x3j14 : Int32) (z0j14 : Int64) : Prop := wu_Ma_markFrame y (fun (s_2 : St) => wu_Ma_inStart y (fun (s_4 : St) (r_3 : Int32) => xP (uV s_4 a1 10 ((sV s_4 a1 10) - 1)) (fun s_5 : St => ((r_3 = 0 → ((¬ (sV s_5 a1 10) = 0 → ((x3j14 = 57 → wj_Ma_endFrame_85 y Post a0 a1 s_5) ∧ (¬ (x3j14 = 57) → wu_Ru_push y (fun (s_9 : St) => wj_Ma_endFrame_85 y Post a0 a1 s_9) s_5 a1 z0j14))) ∧ ((sV s_5 a1 10) = 0 → wu_Ma_endRun y (fun (s_11 : St) => wj_Ma_endFrame_100 y Post a0 a1 s_11) s_5 a0 a1 x3j14 z0j14.toInt32))) ∧ (¬ (r_3 = 0) → wu_Ma_endStart y (fun (s_13 : St) => wj_Ma_endFrame_100 y Post a0 a1 s_13) s_5 a0 a1 x2j14 2)))) s_2 a0 a1) s_j14 a0 2 x2j14
def wu_Ma_endFrame (y : Ly) (Post : St → Prop) (σ : St) (a0 : Nat) (a1 : Nat) (v2 : Int32) (v3 : Int32) : Prop := ((¬ v3 = 57 → wu_Ru_pop y (fun (s_15 : St) (r_14 : Int64) => wj_Ma_endFrame_14 y Post a0 a1 s_15 v2 v3 r_14) σ a1) ∧ (v3 = 57 → wj_Ma_endFrame_14 y Post a0 a1 σ v2 v3 0))
set_option maxHeartbeats 4000000 in
set_option maxRecDepth 100000 in
theorem cu_Ma_endFrame (l : Launch) (D : va_G) (g : Nat → ClassId) (ad : Nat → Nat) (y : Ly) (Post : St → Prop) (σ : St) (a0 : Nat) (a1 : Nat) (v2 : Int32) (v3 : Int32) (sz : Nat) (h_a0 : cl a0 = 4) (h_a1 : cl a1 = 7) (h : wu_Ma_endFrame y Post σ a0 a1 v2 v3) : Met l y_Ma_endFrame (mw y_Ma_endFrame b_Ma_endFrame 7 (none)) ru_Ma_endFrame (PC g D [] [.ref (ad a0), .ref (ad a1), .int v2, .int v3] sz (ws g ad y σ)) (va_Qv (fun u : St => Post u) (QW D (va_A (ws g ad y σ) sz) (fun u => ws g ad y u)) (va_A (ws g ad y σ) sz)) 0 0 (va_A (ws g ad y σ) sz) := by
  refine ofV (by decide +kernel) (Nat.le_of_ble_eq_true rfl) ?_
  intro p e s m args below meth c A Q ls H locs G hsz hP hD hS hl hret
  subst hsz
  have hl : lv_has ls 7 [(0, .ref (ad a0)), (1, .ref (ad a1)), (2, .int v2), (3, .int v3)] := hl
  unfold wu_Ma_endFrame at h
  refine lv_iload_n G.1 G.2.1 d_Ma_endFrame_0 rfl (lv_at hl 3 rfl) ?_
  refine lv_bipush (v := 57) G.1 G.2.1 d_Ma_endFrame_1 (by decide) ?_
  have J_14 : ∀ (s_j14 : St) (x2j14 : Int32) (x3j14 : Int32) (z0j14 : Int64) (H : Heap) (locs : List Loc), wj_Ma_endFrame_14 y Post a0 a1 s_j14 x2j14 x3j14 z0j14 → va_P D CL (ws g ad y s_j14) H → va_D A (ws g ad y s_j14) → va_S A s.heap H locs → ∀ ls, lv_has ls 7 [(0, .ref (ad a0)), (1, .ref (ad a1)), (2, .int x2j14), (3, .int x3j14)] → W p l e ru_Ma_endFrame s m args below meth c H locs 0 0 Q (F0 m 14 ls [.long z0j14]) := by
    intro s_j14 x2j14 x3j14 z0j14 H locs h hP hD hS ls hl
    unfold wj_Ma_endFrame_14 at h
    refine lv_lstore (lv' := [(4, .long z0j14), (0, .ref (ad a0)), (1, .ref (ad a1)), (2, .int x2j14), (3, .int x3j14)]) G.1 G.2.1 d_Ma_endFrame_14 hl (by decide) rfl (fun ls hl => ?_)
    refine lv_aload_n G.1 G.2.1 d_Ma_endFrame_16 rfl (lv_at hl 1 rfl) ?_
    refine lv_iconst (v := 2) G.1 G.2.1 d_Ma_endFrame_17 (by decide) ?_
    refine lv_iload_n G.1 G.2.1 d_Ma_endFrame_18 rfl (lv_at hl 3 rfl) ?_
    refine ucVv (As := [.int 2, .int x2j14]) (rest := []) G hP hD hS (cu_Ma_markFrame l D g ad y _ s_j14 a0 2 x2j14 H.size h_a0 h) w9_Ma_markFrame q1907 ⟨Nat.le_of_ble_eq_true rfl, Nat.le_of_ble_eq_true rfl⟩ rfl rfl h_a0 (q := (RMa, TMa, 19)) rfl rfl hl.1 rfl (Nat.le_of_ble_eq_true rfl) rfl ⟨Nat.le_refl _, Nat.le_refl _⟩ d_Ma_endFrame_19 (fun s_2 H locs h hP hD hS => ?_)
    refine lv_aload_n G.1 G.2.1 d_Ma_endFrame_22 rfl (lv_at hl 1 rfl) ?_
    refine lv_aload_n G.1 G.2.1 d_Ma_endFrame_23 rfl (lv_at hl 2 rfl) ?_
    refine ucVi (As := [.ref (ad a1)]) (rest := []) G hP hD hS (cu_Ma_inStart l D g ad y _ s_2 a0 a1 H.size h_a0 h_a1 h) w9_Ma_inStart q1919 ⟨Nat.le_of_ble_eq_true rfl, Nat.le_of_ble_eq_true rfl⟩ rfl rfl h_a0 (q := (RMa, TMa, 19)) rfl rfl hl.1 rfl (Nat.le_of_ble_eq_true rfl) rfl ⟨Nat.le_refl _, Nat.le_refl _⟩ d_Ma_endFrame_24 (fun r_3 s_4 H locs h hP hD hS => ?_)
    refine lv_istore (lv' := [(6, .int r_3), (4, .long z0j14), (0, .ref (ad a0)), (1, .ref (ad a1)), (2, .int x2j14), (3, .int x3j14)]) G.1 G.2.1 d_Ma_endFrame_27 hl (by decide) rfl (fun ls hl => ?_)
    refine lv_aload_n G.1 G.2.1 d_Ma_endFrame_29 rfl (lv_at hl 3 rfl) ?_
    refine lv_dup G.1 G.2.1 d_Ma_endFrame_30 rfl ?_
    refine W.eq (g2 := F0 m 31 ls [.ref (ad a1), .ref (ad a1)]) rfl ?_
    refine ugf (v := .int (sV s_4 a1 10)) G hP h_a1 iRu rfl 10 (by decide) rfl q1006 rfl rfl d_Ma_endFrame_31 ?_
    refine lv_iconst (v := 1) G.1 G.2.1 d_Ma_endFrame_34 (by decide) ?_
    refine lv_isub G.1 G.2.1 d_Ma_endFrame_35 ?_
    refine upf G hP hD hS h 10 putV h_a1 iRu tRu tRu_ok nRu rfl (by decide) rfl q1006 rfl rfl fV rfl rfl d_Ma_endFrame_36 (fun s_5 H locs h hP hD hS => ?_)
    refine lv_iload G.1 G.2.1 d_Ma_endFrame_39 (lv_at hl 0 rfl) ?_
    have J_100 : ∀ (s_j100 : St) (H : Heap) (locs : List Loc), wj_Ma_endFrame_100 y Post a0 a1 s_j100 → va_P D CL (ws g ad y s_j100) H → va_D A (ws g ad y s_j100) → va_S A s.heap H locs → ∀ ls, lv_has ls 7 [] → W p l e ru_Ma_endFrame s m args below meth c H locs 0 0 Q (F0 m 100 ls []) := by
      intro s_j100 H locs h hP hD hS ls hl
      unfold wj_Ma_endFrame_100 at h
      exact hret _ _ _ _ _ _ ls h hP hD hS (Nat.le_refl _) (Nat.le_refl _) d_Ma_endFrame_100
    refine lv_if_eq (tgt := 54) G.1 G.2.1 d_Ma_endFrame_41 (by decide) (fun c41 => ?_) (fun c41 => ?_)
    · skip
      have h := h.1 c41
      refine lv_aload_n G.1 G.2.1 d_Ma_endFrame_54 rfl (lv_at hl 3 rfl) ?_
      refine ugf (v := .int (sV s_5 a1 10)) G hP h_a1 iRu rfl 10 (by decide) rfl q1006 rfl rfl d_Ma_endFrame_55 ?_
      refine lv_if_ne (tgt := 73) G.1 G.2.1 d_Ma_endFrame_58 (by decide) (fun c58 => ?_) (fun c58 => ?_)
      · skip
        have h := h.1 c58
        refine lv_iload_n G.1 G.2.1 d_Ma_endFrame_73 rfl (lv_at hl 5 rfl) ?_
        refine lv_bipush (v := 57) G.1 G.2.1 d_Ma_endFrame_74 (by decide) ?_
        have J_85 : ∀ (s_j85 : St) (H : Heap) (locs : List Loc), wj_Ma_endFrame_85 y Post a0 a1 s_j85 → va_P D CL (ws g ad y s_j85) H → va_D A (ws g ad y s_j85) → va_S A s.heap H locs → ∀ ls, lv_has ls 7 [(1, .ref (ad a1))] → W p l e ru_Ma_endFrame s m args below meth c H locs 0 0 Q (F0 m 85 ls []) := by
          intro s_j85 H locs h hP hD hS ls hl
          unfold wj_Ma_endFrame_85 at h
          refine lv_aload_n G.1 G.2.1 d_Ma_endFrame_85 rfl (lv_at hl 0 rfl) ?_
          refine ugf (v := .ref (yP y a1 13)) G hP h_a1 iRu rfl 13 (by decide) rfl q1015 rfl rfl d_Ma_endFrame_86 ?_
          refine lv_aload_n G.1 G.2.1 d_Ma_endFrame_89 rfl (lv_at hl 0 rfl) ?_
          refine ugf (v := .int (sV s_j85 a1 10)) G hP h_a1 iRu rfl 10 (by decide) rfl q1006 rfl rfl d_Ma_endFrame_90 ?_
          refine lv_iconst (v := 1) G.1 G.2.1 d_Ma_endFrame_93 (by decide) ?_
          refine lv_isub G.1 G.2.1 d_Ma_endFrame_94 ?_
          refine lv_dup2_11 G.1 G.2.1 d_Ma_endFrame_95 rfl rfl ?_
          refine uiald G hP (kdp h_a1 rfl) (typ h_a1 rfl) h d_Ma_endFrame_96 (fun x_6 h => ?_)
          refine lv_iconst (v := 1) G.1 G.2.1 d_Ma_endFrame_97 (by decide) ?_
          refine lv_iadd G.1 G.2.1 d_Ma_endFrame_98 ?_
          refine uiast G hP hD hS (kdp h_a1 rfl) (typ h_a1 rfl) h d_Ma_endFrame_99 (fun s_7 H locs h hP hD hS => ?_)
          exact J_100 s_7 H locs h hP hD hS ls (lv_sub hl [] rfl)
        refine lv_icmp_eq (tgt := 85) G.1 G.2.1 d_Ma_endFrame_76 (by decide) (fun c76 => ?_) (fun c76 => ?_)
        · skip
          have h := h.1 c76
          exact J_85 s_5 H locs h hP hD hS ls (lv_sub hl [3] rfl)
        · skip
          have h := h.2 c76
          refine W.eq (g2 := F0 m 79 ls []) rfl ?_
          refine lv_aload_n G.1 G.2.1 d_Ma_endFrame_79 rfl (lv_at hl 3 rfl) ?_
          refine lv_lload G.1 G.2.1 d_Ma_endFrame_80 (lv_at hl 1 rfl) ?_
          refine ucVv (As := [.long z0j14]) (rest := []) G hP hD hS (cu_Ru_push l D g ad y _ s_5 a1 z0j14 H.size h_a1 h) w9_Ru_push q1932 ⟨Nat.le_of_ble_eq_true rfl, Nat.le_of_ble_eq_true rfl⟩ rfl rfl h_a1 (q := (RRu, TRu, 19)) rfl rfl hl.1 rfl (Nat.le_of_ble_eq_true rfl) rfl ⟨Nat.le_refl _, Nat.le_refl _⟩ d_Ma_endFrame_82 (fun s_9 H locs h hP hD hS => ?_)
          exact J_85 s_9 H locs h hP hD hS ls (lv_sub hl [3] rfl)
      · skip
        have h := h.2 c58
        refine lv_aload_n G.1 G.2.1 d_Ma_endFrame_61 rfl (lv_at hl 2 rfl) ?_
        refine lv_aload_n G.1 G.2.1 d_Ma_endFrame_62 rfl (lv_at hl 3 rfl) ?_
        refine lv_iload_n G.1 G.2.1 d_Ma_endFrame_63 rfl (lv_at hl 5 rfl) ?_
        refine W.eq (g2 := F0 m 64 ls [.int x3j14, .ref (ad a1), .ref (ad a0)]) rfl ?_
        refine lv_lload G.1 G.2.1 d_Ma_endFrame_64 (lv_at hl 1 rfl) ?_
        refine lv_l2i G.1 G.2.1 d_Ma_endFrame_66 rfl ?_
        refine ucVv (As := [.ref (ad a1), .int x3j14, .int z0j14.toInt32]) (rest := []) G hP hD hS (cu_Ma_endRun l D g ad y _ s_5 a0 a1 x3j14 z0j14.toInt32 H.size h_a0 h_a1 h) w9_Ma_endRun q1928 ⟨Nat.le_of_ble_eq_true rfl, Nat.le_of_ble_eq_true rfl⟩ rfl rfl h_a0 (q := (RMa, TMa, 19)) rfl rfl hl.1 rfl (Nat.le_of_ble_eq_true rfl) rfl ⟨Nat.le_refl _, Nat.le_refl _⟩ d_Ma_endFrame_67 (fun s_11 H locs h hP hD hS => ?_)
        refine lv_goto (tgt := 100) G.1 G.2.1 d_Ma_endFrame_70 (by decide) ?_
        exact J_100 s_11 H locs h hP hD hS ls (lv_sub hl [] rfl)
    · skip
      have h := h.2 c41
      refine lv_aload_n G.1 G.2.1 d_Ma_endFrame_44 rfl (lv_at hl 2 rfl) ?_
      refine lv_aload_n G.1 G.2.1 d_Ma_endFrame_45 rfl (lv_at hl 3 rfl) ?_
      refine lv_iload_n G.1 G.2.1 d_Ma_endFrame_46 rfl (lv_at hl 4 rfl) ?_
      refine lv_iconst (v := 2) G.1 G.2.1 d_Ma_endFrame_47 (by decide) ?_
      refine ucVv (As := [.ref (ad a1), .int x2j14, .int 2]) (rest := []) G hP hD hS (cu_Ma_endStart l D g ad y _ s_5 a0 a1 x2j14 2 H.size h_a0 h_a1 h) w9_Ma_endStart q1924 ⟨Nat.le_of_ble_eq_true rfl, Nat.le_of_ble_eq_true rfl⟩ rfl rfl h_a0 (q := (RMa, TMa, 19)) rfl rfl hl.1 rfl (Nat.le_of_ble_eq_true rfl) rfl ⟨Nat.le_refl _, Nat.le_refl _⟩ d_Ma_endFrame_48 (fun s_13 H locs h hP hD hS => ?_)
      refine lv_goto (tgt := 100) G.1 G.2.1 d_Ma_endFrame_51 (by decide) ?_
      exact J_100 s_13 H locs h hP hD hS ls (lv_sub hl [] rfl)
  refine lv_icmp_ne (tgt := 10) G.1 G.2.1 d_Ma_endFrame_3 (by decide) (fun c3 => ?_) (fun c3 => ?_)
  · skip
    have h := h.1 c3
    refine lv_aload_n G.1 G.2.1 d_Ma_endFrame_10 rfl (lv_at hl 1 rfl) ?_
    refine ucVl (As := []) (rest := []) G hP hD hS (cu_Ru_pop l D g ad y _ σ a1 H.size h_a1 h) w9_Ru_pop q1898 ⟨Nat.le_of_ble_eq_true rfl, Nat.le_of_ble_eq_true rfl⟩ rfl rfl h_a1 (q := (RRu, TRu, 19)) rfl rfl hl.1 rfl (Nat.le_of_ble_eq_true rfl) rfl ⟨Nat.le_refl _, Nat.le_refl _⟩ d_Ma_endFrame_11 (fun r_14 s_15 H locs h hP hD hS => ?_)
    exact J_14 s_15 v2 v3 r_14 H locs h hP hD hS ls (lv_sub hl [0, 1, 2, 3] rfl)
  · skip
    have h := h.2 c3
    refine lv_lconst (v := 0) G.1 G.2.1 d_Ma_endFrame_6 (by decide) ?_
    refine lv_goto (tgt := 14) G.1 G.2.1 d_Ma_endFrame_7 (by decide) ?_
    exact J_14 σ v2 v3 0 H locs h hP hD hS ls (lv_sub hl [0, 1, 2, 3] rfl)
def y_Ru_popNumber : MethodName := ⟨"ClassWorks$Runner", "popNumber", "()I"⟩
abbrev b_Ru_popNumber : ByteArray := prog_9_method_11_code
theorem q1944 : Cond.methodLink "ClassWorks$Runner" 75 y_Ru_pop ∈ lw_ok := lw_okmem (List.mem_of_getElem? (i := 1944) (by decide +kernel)) rfl
theorem d_Ru_popNumber_0 : decode b_Ru_popNumber 0 = .ok (.aload_n 0, 1) := by decide +kernel
theorem d_Ru_popNumber_1 : decode b_Ru_popNumber 1 = .ok (.invokevirtual 75, 3) := by decide +kernel
theorem d_Ru_popNumber_4 : decode b_Ru_popNumber 4 = .ok (.l2i, 1) := by decide +kernel
theorem d_Ru_popNumber_5 : decode b_Ru_popNumber 5 = .ok (.ireturn, 1) := by decide +kernel
abbrev ru_Ru_popNumber : Room := { frames := 1, cells := 0, slots := 0, locals := 20 }
def wu_Ru_popNumber (y : Ly) (Post : St → Int32 → Prop) (σ : St) (a0 : Nat) : Prop := wu_Ru_pop y (fun (s_2 : St) (r_1 : Int64) => Post s_2 r_1.toInt32) σ a0
set_option maxHeartbeats 4000000 in
set_option maxRecDepth 100000 in
theorem cu_Ru_popNumber (l : Launch) (D : va_G) (g : Nat → ClassId) (ad : Nat → Nat) (y : Ly) (Post : St → Int32 → Prop) (σ : St) (a0 : Nat) (sz : Nat) (h_a0 : cl a0 = 7) (h : wu_Ru_popNumber y Post σ a0) : Met l y_Ru_popNumber (mw y_Ru_popNumber b_Ru_popNumber 1 (some .int)) ru_Ru_popNumber (PC g D [] [.ref (ad a0)] sz (ws g ad y σ)) (va_Qi (fun (r : Int32) (u : St) => Post u r) (QW D (va_A (ws g ad y σ) sz) (fun u => ws g ad y u)) (va_A (ws g ad y σ) sz)) 0 0 (va_A (ws g ad y σ) sz) := by
  refine ofI (by decide +kernel) (Nat.le_of_ble_eq_true rfl) ?_
  intro p e s m args below meth c A Q ls H locs G hsz hP hD hS hl hret
  subst hsz
  have hl : lv_has ls 1 [(0, .ref (ad a0))] := hl
  unfold wu_Ru_popNumber at h
  refine lv_aload_n G.1 G.2.1 d_Ru_popNumber_0 rfl (lv_at hl 0 rfl) ?_
  refine ucVl (As := []) (rest := []) G hP hD hS (cu_Ru_pop l D g ad y _ σ a0 H.size h_a0 h) w9_Ru_pop q1944 ⟨Nat.le_of_ble_eq_true rfl, Nat.le_of_ble_eq_true rfl⟩ rfl rfl h_a0 (q := (RRu, TRu, 19)) rfl rfl hl.1 rfl (Nat.le_of_ble_eq_true rfl) rfl ⟨Nat.le_refl _, Nat.le_refl _⟩ d_Ru_popNumber_1 (fun r_1 s_2 H locs h hP hD hS => ?_)
  refine lv_l2i G.1 G.2.1 d_Ru_popNumber_4 rfl ?_
  exact hret _ _ _ _ _ _ _ ls h hP hD hS (Nat.le_refl _) (Nat.le_refl _) d_Ru_popNumber_5
theorem q1940 : Cond.methodLink "ClassWorks$Machine" 401 y_Ru_popNumber ∈ lw_ok := lw_okmem (List.mem_of_getElem? (i := 1940) (by decide +kernel)) rfl
theorem q1943 : Cond.code y_Ru_popNumber b_Ru_popNumber 1 (some .int) ∈ lw_ok := lw_okmem (List.mem_of_getElem? (i := 1943) (by decide +kernel)) rfl
theorem q1941 : Cond.instanceMethod y_Ru_popNumber ∈ lw_ok := lw_okmem (List.mem_of_getElem? (i := 1941) (by decide +kernel)) rfl
theorem q1942 : Cond.selects y_Ru_popNumber.cls y_Ru_popNumber y_Ru_popNumber ∈ lw_ok := lw_okmem (List.mem_of_getElem? (i := 1942) (by decide +kernel)) rfl
theorem w9_Ru_popNumber : CWv y_Ru_popNumber b_Ru_popNumber 1 (some .int) 0 ∧ Cond.instanceMethod y_Ru_popNumber ∈ lw_ok ∧ Cond.selects y_Ru_popNumber.cls y_Ru_popNumber y_Ru_popNumber ∈ lw_ok := ⟨⟨q1943, q347, by decide +kernel, by decide +kernel, by decide +kernel⟩, q1941, q1942⟩
def y_Ma_picked : MethodName := ⟨"ClassWorks$Machine", "picked", "(LClassWorks$Runner;I)I"⟩
abbrev b_Ma_picked : ByteArray := prog_6_method_36_code
theorem q857 : Cond.fieldLink "ClassWorks$Machine" 411 "ClassWorks$World" "extra" "LClassWorks$Ints;" ∈ lw_ok := lw_okmem (List.mem_of_getElem? (i := 857) (by decide +kernel)) rfl
theorem d_Ma_picked_0 : decode b_Ma_picked 0 = .ok (.aload_n 0, 1) := by decide +kernel
theorem d_Ma_picked_1 : decode b_Ma_picked 1 = .ok (.getfield 69, 3) := by decide +kernel
theorem d_Ma_picked_4 : decode b_Ma_picked 4 = .ok (.getfield 224, 3) := by decide +kernel
theorem d_Ma_picked_7 : decode b_Ma_picked 7 = .ok (.getfield 228, 3) := by decide +kernel
theorem d_Ma_picked_10 : decode b_Ma_picked 10 = .ok (.astore_n 3, 1) := by decide +kernel
theorem d_Ma_picked_11 : decode b_Ma_picked 11 = .ok (.aload_n 1, 1) := by decide +kernel
theorem d_Ma_picked_12 : decode b_Ma_picked 12 = .ok (.invokevirtual 401, 3) := by decide +kernel
theorem d_Ma_picked_15 : decode b_Ma_picked 15 = .ok (.i2l, 1) := by decide +kernel
theorem d_Ma_picked_16 : decode b_Ma_picked 16 = .ok (.aload_n 3, 1) := by decide +kernel
theorem d_Ma_picked_17 : decode b_Ma_picked 17 = .ok (.iload_n 2, 1) := by decide +kernel
theorem d_Ma_picked_18 : decode b_Ma_picked 18 = .ok (.iconst 1, 1) := by decide +kernel
theorem d_Ma_picked_19 : decode b_Ma_picked 19 = .ok (.iadd, 1) := by decide +kernel
theorem d_Ma_picked_20 : decode b_Ma_picked 20 = .ok (.iaload, 1) := by decide +kernel
theorem d_Ma_picked_21 : decode b_Ma_picked 21 = .ok (.i2l, 1) := by decide +kernel
theorem d_Ma_picked_22 : decode b_Ma_picked 22 = .ok (.lsub, 1) := by decide +kernel
theorem d_Ma_picked_23 : decode b_Ma_picked 23 = .ok (.lstore 4, 2) := by decide +kernel
theorem d_Ma_picked_25 : decode b_Ma_picked 25 = .ok (.aload_n 3, 1) := by decide +kernel
theorem d_Ma_picked_26 : decode b_Ma_picked 26 = .ok (.iload_n 2, 1) := by decide +kernel
theorem d_Ma_picked_27 : decode b_Ma_picked 27 = .ok (.iconst 3, 1) := by decide +kernel
theorem d_Ma_picked_28 : decode b_Ma_picked 28 = .ok (.iadd, 1) := by decide +kernel
theorem d_Ma_picked_29 : decode b_Ma_picked 29 = .ok (.iaload, 1) := by decide +kernel
theorem d_Ma_picked_30 : decode b_Ma_picked 30 = .ok (.iconst 1, 1) := by decide +kernel
theorem d_Ma_picked_31 : decode b_Ma_picked 31 = .ok (.isub, 1) := by decide +kernel
theorem d_Ma_picked_32 : decode b_Ma_picked 32 = .ok (.istore 6, 2) := by decide +kernel
theorem d_Ma_picked_34 : decode b_Ma_picked 34 = .ok (.lload 4, 2) := by decide +kernel
theorem d_Ma_picked_36 : decode b_Ma_picked 36 = .ok (.lconst 0, 1) := by decide +kernel
theorem d_Ma_picked_37 : decode b_Ma_picked 37 = .ok (.lcmp, 1) := by decide +kernel
theorem d_Ma_picked_38 : decode b_Ma_picked 38 = .ok (.ifCond .lt 12, 3) := by decide +kernel
theorem d_Ma_picked_41 : decode b_Ma_picked 41 = .ok (.lload 4, 2) := by decide +kernel
theorem d_Ma_picked_43 : decode b_Ma_picked 43 = .ok (.iload 6, 2) := by decide +kernel
theorem d_Ma_picked_45 : decode b_Ma_picked 45 = .ok (.i2l, 1) := by decide +kernel
theorem d_Ma_picked_46 : decode b_Ma_picked 46 = .ok (.lcmp, 1) := by decide +kernel
theorem d_Ma_picked_47 : decode b_Ma_picked 47 = .ok (.ifCond .le 8, 3) := by decide +kernel
theorem d_Ma_picked_50 : decode b_Ma_picked 50 = .ok (.iload 6, 2) := by decide +kernel
theorem d_Ma_picked_52 : decode b_Ma_picked 52 = .ok (.goto 6, 3) := by decide +kernel
theorem d_Ma_picked_55 : decode b_Ma_picked 55 = .ok (.lload 4, 2) := by decide +kernel
theorem d_Ma_picked_57 : decode b_Ma_picked 57 = .ok (.l2i, 1) := by decide +kernel
theorem d_Ma_picked_58 : decode b_Ma_picked 58 = .ok (.istore 7, 2) := by decide +kernel
theorem d_Ma_picked_60 : decode b_Ma_picked 60 = .ok (.aload_n 0, 1) := by decide +kernel
theorem d_Ma_picked_61 : decode b_Ma_picked 61 = .ok (.getfield 69, 3) := by decide +kernel
theorem d_Ma_picked_64 : decode b_Ma_picked 64 = .ok (.getfield 411, 3) := by decide +kernel
theorem d_Ma_picked_67 : decode b_Ma_picked 67 = .ok (.getfield 228, 3) := by decide +kernel
theorem d_Ma_picked_70 : decode b_Ma_picked 70 = .ok (.aload_n 3, 1) := by decide +kernel
theorem d_Ma_picked_71 : decode b_Ma_picked 71 = .ok (.iload_n 2, 1) := by decide +kernel
theorem d_Ma_picked_72 : decode b_Ma_picked 72 = .ok (.iconst 2, 1) := by decide +kernel
theorem d_Ma_picked_73 : decode b_Ma_picked 73 = .ok (.iadd, 1) := by decide +kernel
theorem d_Ma_picked_74 : decode b_Ma_picked 74 = .ok (.iaload, 1) := by decide +kernel
theorem d_Ma_picked_75 : decode b_Ma_picked 75 = .ok (.iload 7, 2) := by decide +kernel
theorem d_Ma_picked_77 : decode b_Ma_picked 77 = .ok (.iadd, 1) := by decide +kernel
theorem d_Ma_picked_78 : decode b_Ma_picked 78 = .ok (.iaload, 1) := by decide +kernel
theorem d_Ma_picked_79 : decode b_Ma_picked 79 = .ok (.ireturn, 1) := by decide +kernel
abbrev ru_Ma_picked : Room := { frames := 2, cells := 0, slots := 0, locals := 40 }
def wj_Ma_picked_58 (y : Ly) (Post : St → Int32 → Prop) (a0 : Nat) (a1 : Nat) (s_j58 : St) (x2j58 : Int32) (z0j58 : Int32) : Prop := xA y s_j58 (lk (lk a0 0) 10) 0 (x2j58 + 2) (fun x_5 : Int32 => xA y s_j58 (lk (lk a0 0) 12) 0 (x_5 + z0j58) (fun x_6 : Int32 => Post s_j58 x_6))
def wj_Ma_picked_50 (y : Ly) (Post : St → Int32 → Prop) (a0 : Nat) (a1 : Nat) (s_j50 : St) (x2j50 : Int32) (x6j50 : Int32) : Prop := wj_Ma_picked_58 y Post a0 a1 s_j50 x2j50 x6j50
def wu_Ma_picked (y : Ly) (Post : St → Int32 → Prop) (σ : St) (a0 : Nat) (a1 : Nat) (v2 : Int32) : Prop := wu_Ru_popNumber y (fun (s_2 : St) (r_1 : Int32) => xA y s_2 (lk (lk a0 0) 10) 0 (v2 + 1) (fun x_3 : Int32 => xA y s_2 (lk (lk a0 0) 10) 0 (v2 + 3) (fun x_4 : Int32 => (((lg_cmp (r_1.toInt64 - x_3.toInt64) 0) < 0 → wj_Ma_picked_50 y Post a0 a1 s_2 v2 (x_4 - 1)) ∧ (¬ ((lg_cmp (r_1.toInt64 - x_3.toInt64) 0) < 0) → (((lg_cmp (r_1.toInt64 - x_3.toInt64) ((x_4 - 1).toInt64)) ≤ 0 → wj_Ma_picked_58 y Post a0 a1 s_2 v2 ((r_1.toInt64 - x_3.toInt64).toInt32)) ∧ (¬ ((lg_cmp (r_1.toInt64 - x_3.toInt64) ((x_4 - 1).toInt64)) ≤ 0) → wj_Ma_picked_50 y Post a0 a1 s_2 v2 (x_4 - 1)))))))) σ a1
set_option maxHeartbeats 4000000 in
set_option maxRecDepth 100000 in
theorem cu_Ma_picked (l : Launch) (D : va_G) (g : Nat → ClassId) (ad : Nat → Nat) (y : Ly) (Post : St → Int32 → Prop) (σ : St) (a0 : Nat) (a1 : Nat) (v2 : Int32) (sz : Nat) (h_a0 : cl a0 = 4) (h_a1 : cl a1 = 7) (h : wu_Ma_picked y Post σ a0 a1 v2) : Met l y_Ma_picked (mw y_Ma_picked b_Ma_picked 8 (some .int)) ru_Ma_picked (PC g D [] [.ref (ad a0), .ref (ad a1), .int v2] sz (ws g ad y σ)) (va_Qi (fun (r : Int32) (u : St) => Post u r) (QW D (va_A (ws g ad y σ) sz) (fun u => ws g ad y u)) (va_A (ws g ad y σ) sz)) 0 0 (va_A (ws g ad y σ) sz) := by
  refine ofI (by decide +kernel) (Nat.le_of_ble_eq_true rfl) ?_
  intro p e s m args below meth c A Q ls H locs G hsz hP hD hS hl hret
  subst hsz
  have hl : lv_has ls 8 [(0, .ref (ad a0)), (1, .ref (ad a1)), (2, .int v2)] := hl
  unfold wu_Ma_picked at h
  refine lv_aload_n G.1 G.2.1 d_Ma_picked_0 rfl (lv_at hl 0 rfl) ?_
  refine ugf (v := .ref (ad (lk a0 0))) G hP h_a0 iMa rfl 0 (by decide) rfl q1065 rfl rfl d_Ma_picked_1 ?_
  refine ugf (v := .ref (ad (lk (lk a0 0) 10))) G hP (lk_4_0 h_a0) iWd rfl 10 (by decide) rfl q845 rfl rfl d_Ma_picked_4 ?_
  refine ugf (v := .ref (yP y (lk (lk a0 0) 10) 0)) G hP (lk_9_10 (lk_4_0 h_a0)) iIn rfl 0 (by decide) rfl q385 rfl rfl d_Ma_picked_7 ?_
  refine lv_astore_n (lv' := [(3, .ref (yP y (lk (lk a0 0) 10) 0)), (0, .ref (ad a0)), (1, .ref (ad a1)), (2, .int v2)]) G.1 G.2.1 d_Ma_picked_10 rfl hl (by decide) rfl (fun ls hl => ?_)
  refine lv_aload_n G.1 G.2.1 d_Ma_picked_11 rfl (lv_at hl 2 rfl) ?_
  refine ucVi (As := []) (rest := []) G hP hD hS (cu_Ru_popNumber l D g ad y _ σ a1 H.size h_a1 h) w9_Ru_popNumber q1940 ⟨Nat.le_of_ble_eq_true rfl, Nat.le_of_ble_eq_true rfl⟩ rfl rfl h_a1 (q := (RRu, TRu, 19)) rfl rfl hl.1 rfl (Nat.le_of_ble_eq_true rfl) rfl ⟨Nat.le_refl _, Nat.le_refl _⟩ d_Ma_picked_12 (fun r_1 s_2 H locs h hP hD hS => ?_)
  refine lv_i2l G.1 G.2.1 d_Ma_picked_15 rfl ?_
  refine lv_aload_n G.1 G.2.1 d_Ma_picked_16 rfl (lv_at hl 0 rfl) ?_
  refine lv_iload_n G.1 G.2.1 d_Ma_picked_17 rfl (lv_at hl 3 rfl) ?_
  refine lv_iconst (v := 1) G.1 G.2.1 d_Ma_picked_18 (by decide) ?_
  refine W.eq (g2 := F0 m 19 ls [.int 1, .int v2, .ref (yP y (lk (lk a0 0) 10) 0), .long r_1.toInt64]) rfl ?_
  refine lv_iadd G.1 G.2.1 d_Ma_picked_19 ?_
  refine uiald G hP (kdp (lk_9_10 (lk_4_0 h_a0)) rfl) (typ (lk_9_10 (lk_4_0 h_a0)) rfl) h d_Ma_picked_20 (fun x_3 h => ?_)
  refine lv_i2l G.1 G.2.1 d_Ma_picked_21 rfl ?_
  refine lv_lsub G.1 G.2.1 d_Ma_picked_22 ?_
  refine lv_lstore (lv' := [(4, .long (r_1.toInt64 - x_3.toInt64)), (3, .ref (yP y (lk (lk a0 0) 10) 0)), (0, .ref (ad a0)), (1, .ref (ad a1)), (2, .int v2)]) G.1 G.2.1 d_Ma_picked_23 hl (by decide) rfl (fun ls hl => ?_)
  refine lv_aload_n G.1 G.2.1 d_Ma_picked_25 rfl (lv_at hl 1 rfl) ?_
  refine lv_iload_n G.1 G.2.1 d_Ma_picked_26 rfl (lv_at hl 4 rfl) ?_
  refine lv_iconst (v := 3) G.1 G.2.1 d_Ma_picked_27 (by decide) ?_
  refine lv_iadd G.1 G.2.1 d_Ma_picked_28 ?_
  refine uiald G hP (kdp (lk_9_10 (lk_4_0 h_a0)) rfl) (typ (lk_9_10 (lk_4_0 h_a0)) rfl) h d_Ma_picked_29 (fun x_4 h => ?_)
  refine lv_iconst (v := 1) G.1 G.2.1 d_Ma_picked_30 (by decide) ?_
  refine lv_isub G.1 G.2.1 d_Ma_picked_31 ?_
  refine W.eq (g2 := F0 m 32 ls [.int (x_4 - 1)]) rfl ?_
  refine lv_istore (lv' := [(6, .int (x_4 - 1)), (4, .long (r_1.toInt64 - x_3.toInt64)), (3, .ref (yP y (lk (lk a0 0) 10) 0)), (0, .ref (ad a0)), (1, .ref (ad a1)), (2, .int v2)]) G.1 G.2.1 d_Ma_picked_32 hl (by decide) rfl (fun ls hl => ?_)
  refine lv_lload G.1 G.2.1 d_Ma_picked_34 (lv_at hl 1 rfl) ?_
  refine lv_lconst (v := 0) G.1 G.2.1 d_Ma_picked_36 (by decide) ?_
  refine W.lcmp G.1 G.2.1 d_Ma_picked_37 ?_
  have J_58 : ∀ (s_j58 : St) (x2j58 : Int32) (z0j58 : Int32) (H : Heap) (locs : List Loc), wj_Ma_picked_58 y Post a0 a1 s_j58 x2j58 z0j58 → va_P D CL (ws g ad y s_j58) H → va_D A (ws g ad y s_j58) → va_S A s.heap H locs → ∀ ls, lv_has ls 8 [(0, .ref (ad a0)), (2, .int x2j58), (3, .ref (yP y (lk (lk a0 0) 10) 0))] → W p l e ru_Ma_picked s m args below meth c H locs 0 0 Q (F0 m 58 ls [.int z0j58]) := by
    intro s_j58 x2j58 z0j58 H locs h hP hD hS ls hl
    unfold wj_Ma_picked_58 at h
    refine lv_istore (lv' := [(7, .int z0j58), (0, .ref (ad a0)), (2, .int x2j58), (3, .ref (yP y (lk (lk a0 0) 10) 0))]) G.1 G.2.1 d_Ma_picked_58 hl (by decide) rfl (fun ls hl => ?_)
    refine lv_aload_n G.1 G.2.1 d_Ma_picked_60 rfl (lv_at hl 1 rfl) ?_
    refine ugf (v := .ref (ad (lk a0 0))) G hP h_a0 iMa rfl 0 (by decide) rfl q1065 rfl rfl d_Ma_picked_61 ?_
    refine ugf (v := .ref (ad (lk (lk a0 0) 12))) G hP (lk_4_0 h_a0) iWd rfl 12 (by decide) rfl q857 rfl rfl d_Ma_picked_64 ?_
    refine ugf (v := .ref (yP y (lk (lk a0 0) 12) 0)) G hP (lk_9_12 (lk_4_0 h_a0)) iIn rfl 0 (by decide) rfl q385 rfl rfl d_Ma_picked_67 ?_
    refine lv_aload_n G.1 G.2.1 d_Ma_picked_70 rfl (lv_at hl 3 rfl) ?_
    refine lv_iload_n G.1 G.2.1 d_Ma_picked_71 rfl (lv_at hl 2 rfl) ?_
    refine lv_iconst (v := 2) G.1 G.2.1 d_Ma_picked_72 (by decide) ?_
    refine lv_iadd G.1 G.2.1 d_Ma_picked_73 ?_
    refine uiald G hP (kdp (lk_9_10 (lk_4_0 h_a0)) rfl) (typ (lk_9_10 (lk_4_0 h_a0)) rfl) h d_Ma_picked_74 (fun x_5 h => ?_)
    refine lv_iload G.1 G.2.1 d_Ma_picked_75 (lv_at hl 0 rfl) ?_
    refine W.eq (g2 := F0 m 77 ls [.int z0j58, .int x_5, .ref (yP y (lk (lk a0 0) 12) 0)]) rfl ?_
    refine lv_iadd G.1 G.2.1 d_Ma_picked_77 ?_
    refine uiald G hP (kdp (lk_9_12 (lk_4_0 h_a0)) rfl) (typ (lk_9_12 (lk_4_0 h_a0)) rfl) h d_Ma_picked_78 (fun x_6 h => ?_)
    exact hret _ _ _ _ _ _ _ ls h hP hD hS (Nat.le_refl _) (Nat.le_refl _) d_Ma_picked_79
  have J_50 : ∀ (s_j50 : St) (x2j50 : Int32) (x6j50 : Int32) (H : Heap) (locs : List Loc), wj_Ma_picked_50 y Post a0 a1 s_j50 x2j50 x6j50 → va_P D CL (ws g ad y s_j50) H → va_D A (ws g ad y s_j50) → va_S A s.heap H locs → ∀ ls, lv_has ls 8 [(0, .ref (ad a0)), (2, .int x2j50), (3, .ref (yP y (lk (lk a0 0) 10) 0)), (6, .int x6j50)] → W p l e ru_Ma_picked s m args below meth c H locs 0 0 Q (F0 m 50 ls []) := by
    intro s_j50 x2j50 x6j50 H locs h hP hD hS ls hl
    unfold wj_Ma_picked_50 at h
    refine lv_iload G.1 G.2.1 d_Ma_picked_50 (lv_at hl 3 rfl) ?_
    refine lv_goto (tgt := 58) G.1 G.2.1 d_Ma_picked_52 (by decide) ?_
    exact J_58 s_j50 x2j50 x6j50 H locs h hP hD hS ls (lv_sub hl [0, 1, 2] rfl)
  refine lv_if_lt (tgt := 50) G.1 G.2.1 d_Ma_picked_38 (by decide) (fun c38 => ?_) (fun c38 => ?_)
  · skip
    have h := h.1 c38
    exact J_50 s_2 v2 (x_4 - 1) H locs h hP hD hS ls (lv_sub hl [3, 5, 2, 0] rfl)
  · skip
    have h := h.2 c38
    refine lv_lload G.1 G.2.1 d_Ma_picked_41 (lv_at hl 1 rfl) ?_
    refine lv_iload G.1 G.2.1 d_Ma_picked_43 (lv_at hl 0 rfl) ?_
    refine lv_i2l G.1 G.2.1 d_Ma_picked_45 rfl ?_
    refine W.lcmp G.1 G.2.1 d_Ma_picked_46 ?_
    refine lv_if_le (tgt := 55) G.1 G.2.1 d_Ma_picked_47 (by decide) (fun c47 => ?_) (fun c47 => ?_)
    · skip
      have h := h.1 c47
      refine lv_lload G.1 G.2.1 d_Ma_picked_55 (lv_at hl 1 rfl) ?_
      refine lv_l2i G.1 G.2.1 d_Ma_picked_57 rfl ?_
      exact J_58 s_2 v2 ((r_1.toInt64 - x_3.toInt64).toInt32) H locs h hP hD hS ls (lv_sub hl [3, 5, 2] rfl)
    · skip
      have h := h.2 c47
      exact J_50 s_2 v2 (x_4 - 1) H locs h hP hD hS ls (lv_sub hl [3, 5, 2, 0] rfl)
def y_Ma_holds : MethodName := ⟨"ClassWorks$Machine", "holds", "(III)Z"⟩
abbrev b_Ma_holds : ByteArray := prog_6_method_35_code
theorem d_Ma_holds_0 : decode b_Ma_holds 0 = .ok (.iload_n 0, 1) := by decide +kernel
theorem d_Ma_holds_1 : decode b_Ma_holds 1 = .ok (.tableswitch 90 0 4 #[35, 46, 57, 68, 79], 35) := by decide +kernel
theorem d_Ma_holds_36 : decode b_Ma_holds 36 = .ok (.iload_n 1, 1) := by decide +kernel
theorem d_Ma_holds_37 : decode b_Ma_holds 37 = .ok (.iload_n 2, 1) := by decide +kernel
theorem d_Ma_holds_38 : decode b_Ma_holds 38 = .ok (.if_icmp .ne 7, 3) := by decide +kernel
theorem d_Ma_holds_41 : decode b_Ma_holds 41 = .ok (.iconst 1, 1) := by decide +kernel
theorem d_Ma_holds_42 : decode b_Ma_holds 42 = .ok (.goto 4, 3) := by decide +kernel
theorem d_Ma_holds_45 : decode b_Ma_holds 45 = .ok (.iconst 0, 1) := by decide +kernel
theorem d_Ma_holds_46 : decode b_Ma_holds 46 = .ok (.ireturn, 1) := by decide +kernel
theorem d_Ma_holds_47 : decode b_Ma_holds 47 = .ok (.iload_n 1, 1) := by decide +kernel
theorem d_Ma_holds_48 : decode b_Ma_holds 48 = .ok (.iload_n 2, 1) := by decide +kernel
theorem d_Ma_holds_49 : decode b_Ma_holds 49 = .ok (.if_icmp .eq 7, 3) := by decide +kernel
theorem d_Ma_holds_52 : decode b_Ma_holds 52 = .ok (.iconst 1, 1) := by decide +kernel
theorem d_Ma_holds_53 : decode b_Ma_holds 53 = .ok (.goto 4, 3) := by decide +kernel
theorem d_Ma_holds_56 : decode b_Ma_holds 56 = .ok (.iconst 0, 1) := by decide +kernel
theorem d_Ma_holds_57 : decode b_Ma_holds 57 = .ok (.ireturn, 1) := by decide +kernel
theorem d_Ma_holds_58 : decode b_Ma_holds 58 = .ok (.iload_n 1, 1) := by decide +kernel
theorem d_Ma_holds_59 : decode b_Ma_holds 59 = .ok (.iload_n 2, 1) := by decide +kernel
theorem d_Ma_holds_60 : decode b_Ma_holds 60 = .ok (.if_icmp .ge 7, 3) := by decide +kernel
theorem d_Ma_holds_63 : decode b_Ma_holds 63 = .ok (.iconst 1, 1) := by decide +kernel
theorem d_Ma_holds_64 : decode b_Ma_holds 64 = .ok (.goto 4, 3) := by decide +kernel
theorem d_Ma_holds_67 : decode b_Ma_holds 67 = .ok (.iconst 0, 1) := by decide +kernel
theorem d_Ma_holds_68 : decode b_Ma_holds 68 = .ok (.ireturn, 1) := by decide +kernel
theorem d_Ma_holds_69 : decode b_Ma_holds 69 = .ok (.iload_n 1, 1) := by decide +kernel
theorem d_Ma_holds_70 : decode b_Ma_holds 70 = .ok (.iload_n 2, 1) := by decide +kernel
theorem d_Ma_holds_71 : decode b_Ma_holds 71 = .ok (.if_icmp .lt 7, 3) := by decide +kernel
theorem d_Ma_holds_74 : decode b_Ma_holds 74 = .ok (.iconst 1, 1) := by decide +kernel
theorem d_Ma_holds_75 : decode b_Ma_holds 75 = .ok (.goto 4, 3) := by decide +kernel
theorem d_Ma_holds_78 : decode b_Ma_holds 78 = .ok (.iconst 0, 1) := by decide +kernel
theorem d_Ma_holds_79 : decode b_Ma_holds 79 = .ok (.ireturn, 1) := by decide +kernel
theorem d_Ma_holds_80 : decode b_Ma_holds 80 = .ok (.iload_n 1, 1) := by decide +kernel
theorem d_Ma_holds_81 : decode b_Ma_holds 81 = .ok (.iload_n 2, 1) := by decide +kernel
theorem d_Ma_holds_82 : decode b_Ma_holds 82 = .ok (.if_icmp .le 7, 3) := by decide +kernel
theorem d_Ma_holds_85 : decode b_Ma_holds 85 = .ok (.iconst 1, 1) := by decide +kernel
theorem d_Ma_holds_86 : decode b_Ma_holds 86 = .ok (.goto 4, 3) := by decide +kernel
theorem d_Ma_holds_89 : decode b_Ma_holds 89 = .ok (.iconst 0, 1) := by decide +kernel
theorem d_Ma_holds_90 : decode b_Ma_holds 90 = .ok (.ireturn, 1) := by decide +kernel
theorem d_Ma_holds_91 : decode b_Ma_holds 91 = .ok (.iload_n 1, 1) := by decide +kernel
theorem d_Ma_holds_92 : decode b_Ma_holds 92 = .ok (.iload_n 2, 1) := by decide +kernel
theorem d_Ma_holds_93 : decode b_Ma_holds 93 = .ok (.if_icmp .gt 7, 3) := by decide +kernel
theorem d_Ma_holds_96 : decode b_Ma_holds 96 = .ok (.iconst 1, 1) := by decide +kernel
theorem d_Ma_holds_97 : decode b_Ma_holds 97 = .ok (.goto 4, 3) := by decide +kernel
theorem d_Ma_holds_100 : decode b_Ma_holds 100 = .ok (.iconst 0, 1) := by decide +kernel
theorem d_Ma_holds_101 : decode b_Ma_holds 101 = .ok (.ireturn, 1) := by decide +kernel
abbrev ru_Ma_holds : Room := { frames := 0, cells := 0, slots := 0, locals := 0 }
def wj_Ma_holds_46 (y : Ly) (Post : St → Int32 → Prop) (s_j46 : St) (z0j46 : Int32) : Prop := (nb z0j46 ∧ Post s_j46 z0j46)
def wj_Ma_holds_57 (y : Ly) (Post : St → Int32 → Prop) (s_j57 : St) (z0j57 : Int32) : Prop := (nb z0j57 ∧ Post s_j57 z0j57)
def wj_Ma_holds_68 (y : Ly) (Post : St → Int32 → Prop) (s_j68 : St) (z0j68 : Int32) : Prop := (nb z0j68 ∧ Post s_j68 z0j68)
def wj_Ma_holds_79 (y : Ly) (Post : St → Int32 → Prop) (s_j79 : St) (z0j79 : Int32) : Prop := (nb z0j79 ∧ Post s_j79 z0j79)
def wj_Ma_holds_90 (y : Ly) (Post : St → Int32 → Prop) (s_j90 : St) (z0j90 : Int32) : Prop := (nb z0j90 ∧ Post s_j90 z0j90)
def wj_Ma_holds_101 (y : Ly) (Post : St → Int32 → Prop) (s_j101 : St) (z0j101 : Int32) : Prop := (nb z0j101 ∧ Post s_j101 z0j101)
def wu_Ma_holds (y : Ly) (Post : St → Int32 → Prop) (σ : St) (v0 : Int32) (v1 : Int32) (v2 : Int32) : Prop := ((v0 = 0 → ((¬ v1 = v2 → wj_Ma_holds_46 y Post σ 0) ∧ (v1 = v2 → wj_Ma_holds_46 y Post σ 1))) ∧ (¬ (v0 = 0) → ((v0 = 1 → ((v1 = v2 → wj_Ma_holds_57 y Post σ 0) ∧ (¬ (v1 = v2) → wj_Ma_holds_57 y Post σ 1))) ∧ (¬ (v0 = 1) → ((v0 = 2 → ((v2 ≤ v1 → wj_Ma_holds_68 y Post σ 0) ∧ (¬ (v2 ≤ v1) → wj_Ma_holds_68 y Post σ 1))) ∧ (¬ (v0 = 2) → ((v0 = 3 → ((v1 < v2 → wj_Ma_holds_79 y Post σ 0) ∧ (¬ (v1 < v2) → wj_Ma_holds_79 y Post σ 1))) ∧ (¬ (v0 = 3) → ((v0 = 4 → ((v1 ≤ v2 → wj_Ma_holds_90 y Post σ 0) ∧ (¬ (v1 ≤ v2) → wj_Ma_holds_90 y Post σ 1))) ∧ (¬ (v0 = 4) → ((v2 < v1 → wj_Ma_holds_101 y Post σ 0) ∧ (¬ (v2 < v1) → wj_Ma_holds_101 y Post σ 1))))))))))))
set_option maxHeartbeats 4000000 in
set_option maxRecDepth 100000 in
theorem cu_Ma_holds (l : Launch) (D : va_G) (g : Nat → ClassId) (ad : Nat → Nat) (y : Ly) (Post : St → Int32 → Prop) (σ : St) (v0 : Int32) (v1 : Int32) (v2 : Int32) (sz : Nat) (h : wu_Ma_holds y Post σ v0 v1 v2) : Met l y_Ma_holds (mw y_Ma_holds b_Ma_holds 3 (some (.boolean))) ru_Ma_holds (PC g D [] [.int v0, .int v1, .int v2] sz (ws g ad y σ)) (va_Qi (fun (r : Int32) (u : St) => Post u r) (QW D (va_A (ws g ad y σ) sz) (fun u => ws g ad y u)) (va_A (ws g ad y σ) sz)) 0 0 (va_A (ws g ad y σ) sz) := by
  refine ofZ (by decide +kernel) (Nat.le_of_ble_eq_true rfl) ?_
  intro p e s m args below meth c A Q ls H locs G hsz hP hD hS hl hret
  subst hsz
  have hl : lv_has ls 3 [(0, .int v0), (1, .int v1), (2, .int v2)] := hl
  unfold wu_Ma_holds at h
  refine lv_iload_n G.1 G.2.1 d_Ma_holds_0 rfl (lv_at hl 0 rfl) ?_
  by_cases e1_0 : v0 = 0
  · skip
    have h := h.1 e1_0
    refine lv_tableIn (off := 35) (tgt := 36) G.1 G.2.1 d_Ma_holds_1 (by rw [e1_0]; decide) (by rw [e1_0]; decide) (by rw [e1_0]; rfl) (by decide) ?_
    refine lv_iload_n G.1 G.2.1 d_Ma_holds_36 rfl (lv_at hl 1 rfl) ?_
    refine lv_iload_n G.1 G.2.1 d_Ma_holds_37 rfl (lv_at hl 2 rfl) ?_
    have J_46 : ∀ (s_j46 : St) (z0j46 : Int32) (H : Heap) (locs : List Loc), wj_Ma_holds_46 y Post s_j46 z0j46 → va_P D CL (ws g ad y s_j46) H → va_D A (ws g ad y s_j46) → va_S A s.heap H locs → ∀ ls, lv_has ls 3 [] → W p l e ru_Ma_holds s m args below meth c H locs 0 0 Q (F0 m 46 ls [.int z0j46]) := by
      intro s_j46 z0j46 H locs h hP hD hS ls hl
      unfold wj_Ma_holds_46 at h
      exact hret _ _ _ _ _ _ _ ls (nb_n h.1) h.2 hP hD hS (Nat.le_refl _) (Nat.le_refl _) d_Ma_holds_46
    refine lv_icmp_ne (tgt := 45) G.1 G.2.1 d_Ma_holds_38 (by decide) (fun c38 => ?_) (fun c38 => ?_)
    · skip
      have h := h.1 c38
      refine lv_iconst (v := 0) G.1 G.2.1 d_Ma_holds_45 (by decide) ?_
      exact J_46 σ 0 H locs h hP hD hS ls (lv_sub hl [] rfl)
    · skip
      have h := h.2 c38
      refine lv_iconst (v := 1) G.1 G.2.1 d_Ma_holds_41 (by decide) ?_
      refine lv_goto (tgt := 46) G.1 G.2.1 d_Ma_holds_42 (by decide) ?_
      exact J_46 σ 1 H locs h hP hD hS ls (lv_sub hl [] rfl)
  replace h := h.2 e1_0
  by_cases e1_1 : v0 = 1
  · skip
    have h := h.1 e1_1
    refine lv_tableIn (off := 46) (tgt := 47) G.1 G.2.1 d_Ma_holds_1 (by rw [e1_1]; decide) (by rw [e1_1]; decide) (by rw [e1_1]; rfl) (by decide) ?_
    refine lv_iload_n G.1 G.2.1 d_Ma_holds_47 rfl (lv_at hl 1 rfl) ?_
    refine lv_iload_n G.1 G.2.1 d_Ma_holds_48 rfl (lv_at hl 2 rfl) ?_
    have J_57 : ∀ (s_j57 : St) (z0j57 : Int32) (H : Heap) (locs : List Loc), wj_Ma_holds_57 y Post s_j57 z0j57 → va_P D CL (ws g ad y s_j57) H → va_D A (ws g ad y s_j57) → va_S A s.heap H locs → ∀ ls, lv_has ls 3 [] → W p l e ru_Ma_holds s m args below meth c H locs 0 0 Q (F0 m 57 ls [.int z0j57]) := by
      intro s_j57 z0j57 H locs h hP hD hS ls hl
      unfold wj_Ma_holds_57 at h
      exact hret _ _ _ _ _ _ _ ls (nb_n h.1) h.2 hP hD hS (Nat.le_refl _) (Nat.le_refl _) d_Ma_holds_57
    refine lv_icmp_eq (tgt := 56) G.1 G.2.1 d_Ma_holds_49 (by decide) (fun c49 => ?_) (fun c49 => ?_)
    · skip
      have h := h.1 c49
      refine lv_iconst (v := 0) G.1 G.2.1 d_Ma_holds_56 (by decide) ?_
      exact J_57 σ 0 H locs h hP hD hS ls (lv_sub hl [] rfl)
    · skip
      have h := h.2 c49
      refine lv_iconst (v := 1) G.1 G.2.1 d_Ma_holds_52 (by decide) ?_
      refine lv_goto (tgt := 57) G.1 G.2.1 d_Ma_holds_53 (by decide) ?_
      exact J_57 σ 1 H locs h hP hD hS ls (lv_sub hl [] rfl)
  replace h := h.2 e1_1
  by_cases e1_2 : v0 = 2
  · skip
    have h := h.1 e1_2
    refine lv_tableIn (off := 57) (tgt := 58) G.1 G.2.1 d_Ma_holds_1 (by rw [e1_2]; decide) (by rw [e1_2]; decide) (by rw [e1_2]; rfl) (by decide) ?_
    refine lv_iload_n G.1 G.2.1 d_Ma_holds_58 rfl (lv_at hl 1 rfl) ?_
    refine lv_iload_n G.1 G.2.1 d_Ma_holds_59 rfl (lv_at hl 2 rfl) ?_
    have J_68 : ∀ (s_j68 : St) (z0j68 : Int32) (H : Heap) (locs : List Loc), wj_Ma_holds_68 y Post s_j68 z0j68 → va_P D CL (ws g ad y s_j68) H → va_D A (ws g ad y s_j68) → va_S A s.heap H locs → ∀ ls, lv_has ls 3 [] → W p l e ru_Ma_holds s m args below meth c H locs 0 0 Q (F0 m 68 ls [.int z0j68]) := by
      intro s_j68 z0j68 H locs h hP hD hS ls hl
      unfold wj_Ma_holds_68 at h
      exact hret _ _ _ _ _ _ _ ls (nb_n h.1) h.2 hP hD hS (Nat.le_refl _) (Nat.le_refl _) d_Ma_holds_68
    refine lv_icmp_ge (tgt := 67) G.1 G.2.1 d_Ma_holds_60 (by decide) (fun c60 => ?_) (fun c60 => ?_)
    · skip
      have h := h.1 c60
      refine lv_iconst (v := 0) G.1 G.2.1 d_Ma_holds_67 (by decide) ?_
      exact J_68 σ 0 H locs h hP hD hS ls (lv_sub hl [] rfl)
    · skip
      have h := h.2 c60
      refine lv_iconst (v := 1) G.1 G.2.1 d_Ma_holds_63 (by decide) ?_
      refine lv_goto (tgt := 68) G.1 G.2.1 d_Ma_holds_64 (by decide) ?_
      exact J_68 σ 1 H locs h hP hD hS ls (lv_sub hl [] rfl)
  replace h := h.2 e1_2
  by_cases e1_3 : v0 = 3
  · skip
    have h := h.1 e1_3
    refine lv_tableIn (off := 68) (tgt := 69) G.1 G.2.1 d_Ma_holds_1 (by rw [e1_3]; decide) (by rw [e1_3]; decide) (by rw [e1_3]; rfl) (by decide) ?_
    refine lv_iload_n G.1 G.2.1 d_Ma_holds_69 rfl (lv_at hl 1 rfl) ?_
    refine lv_iload_n G.1 G.2.1 d_Ma_holds_70 rfl (lv_at hl 2 rfl) ?_
    have J_79 : ∀ (s_j79 : St) (z0j79 : Int32) (H : Heap) (locs : List Loc), wj_Ma_holds_79 y Post s_j79 z0j79 → va_P D CL (ws g ad y s_j79) H → va_D A (ws g ad y s_j79) → va_S A s.heap H locs → ∀ ls, lv_has ls 3 [] → W p l e ru_Ma_holds s m args below meth c H locs 0 0 Q (F0 m 79 ls [.int z0j79]) := by
      intro s_j79 z0j79 H locs h hP hD hS ls hl
      unfold wj_Ma_holds_79 at h
      exact hret _ _ _ _ _ _ _ ls (nb_n h.1) h.2 hP hD hS (Nat.le_refl _) (Nat.le_refl _) d_Ma_holds_79
    refine lv_icmp_lt (tgt := 78) G.1 G.2.1 d_Ma_holds_71 (by decide) (fun c71 => ?_) (fun c71 => ?_)
    · skip
      have h := h.1 c71
      refine lv_iconst (v := 0) G.1 G.2.1 d_Ma_holds_78 (by decide) ?_
      exact J_79 σ 0 H locs h hP hD hS ls (lv_sub hl [] rfl)
    · skip
      have h := h.2 c71
      refine lv_iconst (v := 1) G.1 G.2.1 d_Ma_holds_74 (by decide) ?_
      refine lv_goto (tgt := 79) G.1 G.2.1 d_Ma_holds_75 (by decide) ?_
      exact J_79 σ 1 H locs h hP hD hS ls (lv_sub hl [] rfl)
  replace h := h.2 e1_3
  by_cases e1_4 : v0 = 4
  · skip
    have h := h.1 e1_4
    refine lv_tableIn (off := 79) (tgt := 80) G.1 G.2.1 d_Ma_holds_1 (by rw [e1_4]; decide) (by rw [e1_4]; decide) (by rw [e1_4]; rfl) (by decide) ?_
    refine lv_iload_n G.1 G.2.1 d_Ma_holds_80 rfl (lv_at hl 1 rfl) ?_
    refine lv_iload_n G.1 G.2.1 d_Ma_holds_81 rfl (lv_at hl 2 rfl) ?_
    have J_90 : ∀ (s_j90 : St) (z0j90 : Int32) (H : Heap) (locs : List Loc), wj_Ma_holds_90 y Post s_j90 z0j90 → va_P D CL (ws g ad y s_j90) H → va_D A (ws g ad y s_j90) → va_S A s.heap H locs → ∀ ls, lv_has ls 3 [] → W p l e ru_Ma_holds s m args below meth c H locs 0 0 Q (F0 m 90 ls [.int z0j90]) := by
      intro s_j90 z0j90 H locs h hP hD hS ls hl
      unfold wj_Ma_holds_90 at h
      exact hret _ _ _ _ _ _ _ ls (nb_n h.1) h.2 hP hD hS (Nat.le_refl _) (Nat.le_refl _) d_Ma_holds_90
    refine lv_icmp_le (tgt := 89) G.1 G.2.1 d_Ma_holds_82 (by decide) (fun c82 => ?_) (fun c82 => ?_)
    · skip
      have h := h.1 c82
      refine lv_iconst (v := 0) G.1 G.2.1 d_Ma_holds_89 (by decide) ?_
      exact J_90 σ 0 H locs h hP hD hS ls (lv_sub hl [] rfl)
    · skip
      have h := h.2 c82
      refine lv_iconst (v := 1) G.1 G.2.1 d_Ma_holds_85 (by decide) ?_
      refine lv_goto (tgt := 90) G.1 G.2.1 d_Ma_holds_86 (by decide) ?_
      exact J_90 σ 1 H locs h hP hD hS ls (lv_sub hl [] rfl)
  replace h := h.2 e1_4
  have te1_0 := lv_neT (a := 0) e1_0 (by decide)
  have te1_1 := lv_neT (a := 1) e1_1 (by decide)
  have te1_2 := lv_neT (a := 2) e1_2 (by decide)
  have te1_3 := lv_neT (a := 3) e1_3 (by decide)
  have te1_4 := lv_neT (a := 4) e1_4 (by decide)
  refine lv_tableOut (tgt := 91) G.1 G.2.1 d_Ma_holds_1 (by omega) (by decide) ?_
  refine lv_iload_n G.1 G.2.1 d_Ma_holds_91 rfl (lv_at hl 1 rfl) ?_
  refine lv_iload_n G.1 G.2.1 d_Ma_holds_92 rfl (lv_at hl 2 rfl) ?_
  have J_101 : ∀ (s_j101 : St) (z0j101 : Int32) (H : Heap) (locs : List Loc), wj_Ma_holds_101 y Post s_j101 z0j101 → va_P D CL (ws g ad y s_j101) H → va_D A (ws g ad y s_j101) → va_S A s.heap H locs → ∀ ls, lv_has ls 3 [] → W p l e ru_Ma_holds s m args below meth c H locs 0 0 Q (F0 m 101 ls [.int z0j101]) := by
    intro s_j101 z0j101 H locs h hP hD hS ls hl
    unfold wj_Ma_holds_101 at h
    exact hret _ _ _ _ _ _ _ ls (nb_n h.1) h.2 hP hD hS (Nat.le_refl _) (Nat.le_refl _) d_Ma_holds_101
  refine lv_icmp_gt (tgt := 100) G.1 G.2.1 d_Ma_holds_93 (by decide) (fun c93 => ?_) (fun c93 => ?_)
  · skip
    have h := h.1 c93
    refine lv_iconst (v := 0) G.1 G.2.1 d_Ma_holds_100 (by decide) ?_
    exact J_101 σ 0 H locs h hP hD hS ls (lv_sub hl [] rfl)
  · skip
    have h := h.2 c93
    refine lv_iconst (v := 1) G.1 G.2.1 d_Ma_holds_96 (by decide) ?_
    refine lv_goto (tgt := 101) G.1 G.2.1 d_Ma_holds_97 (by decide) ?_
    exact J_101 σ 1 H locs h hP hD hS ls (lv_sub hl [] rfl)
theorem q1948 : Cond.methodLink "ClassWorks$Machine" 407 y_Ma_holds ∈ lw_ok := lw_okmem (List.mem_of_getElem? (i := 1948) (by decide +kernel)) rfl
theorem q1950 : Cond.code y_Ma_holds b_Ma_holds 3 (some (.boolean)) ∈ lw_ok := lw_okmem (List.mem_of_getElem? (i := 1950) (by decide +kernel)) rfl
theorem q1949 : Cond.static y_Ma_holds ∈ lw_ok := lw_okmem (List.mem_of_getElem? (i := 1949) (by decide +kernel)) rfl
theorem w9_Ma_holds : CWv y_Ma_holds b_Ma_holds 3 (some (.boolean)) 3 ∧ Cond.static y_Ma_holds ∈ lw_ok := ⟨⟨q1950, q344, by decide +kernel, by decide +kernel, by decide +kernel⟩, q1949⟩
def y_Ma_jumps : MethodName := ⟨"ClassWorks$Machine", "jumps", "(LClassWorks$Runner;I)Z"⟩
abbrev b_Ma_jumps : ByteArray := prog_6_method_34_code
theorem d_Ma_jumps_0 : decode b_Ma_jumps 0 = .ok (.iload_n 1, 1) := by decide +kernel
theorem d_Ma_jumps_1 : decode b_Ma_jumps 1 = .ok (.bipush 23, 2) := by decide +kernel
theorem d_Ma_jumps_3 : decode b_Ma_jumps 3 = .ok (.if_icmp .ne 5, 3) := by decide +kernel
theorem d_Ma_jumps_6 : decode b_Ma_jumps 6 = .ok (.iconst 1, 1) := by decide +kernel
theorem d_Ma_jumps_7 : decode b_Ma_jumps 7 = .ok (.ireturn, 1) := by decide +kernel
theorem d_Ma_jumps_8 : decode b_Ma_jumps 8 = .ok (.iload_n 1, 1) := by decide +kernel
theorem d_Ma_jumps_9 : decode b_Ma_jumps 9 = .ok (.bipush 30, 2) := by decide +kernel
theorem d_Ma_jumps_11 : decode b_Ma_jumps 11 = .ok (.if_icmp .ge 16, 3) := by decide +kernel
theorem d_Ma_jumps_14 : decode b_Ma_jumps 14 = .ok (.iload_n 1, 1) := by decide +kernel
theorem d_Ma_jumps_15 : decode b_Ma_jumps 15 = .ok (.bipush 24, 2) := by decide +kernel
theorem d_Ma_jumps_17 : decode b_Ma_jumps 17 = .ok (.isub, 1) := by decide +kernel
theorem d_Ma_jumps_18 : decode b_Ma_jumps 18 = .ok (.aload_n 0, 1) := by decide +kernel
theorem d_Ma_jumps_19 : decode b_Ma_jumps 19 = .ok (.invokevirtual 401, 3) := by decide +kernel
theorem d_Ma_jumps_22 : decode b_Ma_jumps 22 = .ok (.iconst 0, 1) := by decide +kernel
theorem d_Ma_jumps_23 : decode b_Ma_jumps 23 = .ok (.invokestatic 407, 3) := by decide +kernel
theorem d_Ma_jumps_26 : decode b_Ma_jumps 26 = .ok (.ireturn, 1) := by decide +kernel
theorem d_Ma_jumps_27 : decode b_Ma_jumps 27 = .ok (.iload_n 1, 1) := by decide +kernel
theorem d_Ma_jumps_28 : decode b_Ma_jumps 28 = .ok (.bipush 36, 2) := by decide +kernel
theorem d_Ma_jumps_30 : decode b_Ma_jumps 30 = .ok (.if_icmp .ge 21, 3) := by decide +kernel
theorem d_Ma_jumps_33 : decode b_Ma_jumps 33 = .ok (.aload_n 0, 1) := by decide +kernel
theorem d_Ma_jumps_34 : decode b_Ma_jumps 34 = .ok (.invokevirtual 401, 3) := by decide +kernel
theorem d_Ma_jumps_37 : decode b_Ma_jumps 37 = .ok (.istore_n 2, 1) := by decide +kernel
theorem d_Ma_jumps_38 : decode b_Ma_jumps 38 = .ok (.iload_n 1, 1) := by decide +kernel
theorem d_Ma_jumps_39 : decode b_Ma_jumps 39 = .ok (.bipush 30, 2) := by decide +kernel
theorem d_Ma_jumps_41 : decode b_Ma_jumps 41 = .ok (.isub, 1) := by decide +kernel
theorem d_Ma_jumps_42 : decode b_Ma_jumps 42 = .ok (.aload_n 0, 1) := by decide +kernel
theorem d_Ma_jumps_43 : decode b_Ma_jumps 43 = .ok (.invokevirtual 401, 3) := by decide +kernel
theorem d_Ma_jumps_46 : decode b_Ma_jumps 46 = .ok (.iload_n 2, 1) := by decide +kernel
theorem d_Ma_jumps_47 : decode b_Ma_jumps 47 = .ok (.invokestatic 407, 3) := by decide +kernel
theorem d_Ma_jumps_50 : decode b_Ma_jumps 50 = .ok (.ireturn, 1) := by decide +kernel
theorem d_Ma_jumps_51 : decode b_Ma_jumps 51 = .ok (.aload_n 0, 1) := by decide +kernel
theorem d_Ma_jumps_52 : decode b_Ma_jumps 52 = .ok (.invokevirtual 401, 3) := by decide +kernel
theorem d_Ma_jumps_55 : decode b_Ma_jumps 55 = .ok (.istore_n 2, 1) := by decide +kernel
theorem d_Ma_jumps_56 : decode b_Ma_jumps 56 = .ok (.iload_n 1, 1) := by decide +kernel
theorem d_Ma_jumps_57 : decode b_Ma_jumps 57 = .ok (.bipush 38, 2) := by decide +kernel
theorem d_Ma_jumps_59 : decode b_Ma_jumps 59 = .ok (.if_icmp .ge 7, 3) := by decide +kernel
theorem d_Ma_jumps_62 : decode b_Ma_jumps 62 = .ok (.iconst 0, 1) := by decide +kernel
theorem d_Ma_jumps_63 : decode b_Ma_jumps 63 = .ok (.goto 7, 3) := by decide +kernel
theorem d_Ma_jumps_66 : decode b_Ma_jumps 66 = .ok (.aload_n 0, 1) := by decide +kernel
theorem d_Ma_jumps_67 : decode b_Ma_jumps 67 = .ok (.invokevirtual 401, 3) := by decide +kernel
theorem d_Ma_jumps_70 : decode b_Ma_jumps 70 = .ok (.istore_n 3, 1) := by decide +kernel
theorem d_Ma_jumps_71 : decode b_Ma_jumps 71 = .ok (.iload_n 1, 1) := by decide +kernel
theorem d_Ma_jumps_72 : decode b_Ma_jumps 72 = .ok (.bipush 36, 2) := by decide +kernel
theorem d_Ma_jumps_74 : decode b_Ma_jumps 74 = .ok (.if_icmp .eq 9, 3) := by decide +kernel
theorem d_Ma_jumps_77 : decode b_Ma_jumps 77 = .ok (.iload_n 1, 1) := by decide +kernel
theorem d_Ma_jumps_78 : decode b_Ma_jumps 78 = .ok (.bipush 38, 2) := by decide +kernel
theorem d_Ma_jumps_80 : decode b_Ma_jumps 80 = .ok (.if_icmp .ne 7, 3) := by decide +kernel
theorem d_Ma_jumps_83 : decode b_Ma_jumps 83 = .ok (.iconst 1, 1) := by decide +kernel
theorem d_Ma_jumps_84 : decode b_Ma_jumps 84 = .ok (.goto 4, 3) := by decide +kernel
theorem d_Ma_jumps_87 : decode b_Ma_jumps 87 = .ok (.iconst 0, 1) := by decide +kernel
theorem d_Ma_jumps_88 : decode b_Ma_jumps 88 = .ok (.istore 4, 2) := by decide +kernel
theorem d_Ma_jumps_90 : decode b_Ma_jumps 90 = .ok (.iload_n 2, 1) := by decide +kernel
theorem d_Ma_jumps_91 : decode b_Ma_jumps 91 = .ok (.iload_n 3, 1) := by decide +kernel
theorem d_Ma_jumps_92 : decode b_Ma_jumps 92 = .ok (.if_icmp .ne 7, 3) := by decide +kernel
theorem d_Ma_jumps_95 : decode b_Ma_jumps 95 = .ok (.iconst 1, 1) := by decide +kernel
theorem d_Ma_jumps_96 : decode b_Ma_jumps 96 = .ok (.goto 4, 3) := by decide +kernel
theorem d_Ma_jumps_99 : decode b_Ma_jumps 99 = .ok (.iconst 0, 1) := by decide +kernel
theorem d_Ma_jumps_100 : decode b_Ma_jumps 100 = .ok (.iload 4, 2) := by decide +kernel
theorem d_Ma_jumps_102 : decode b_Ma_jumps 102 = .ok (.if_icmp .ne 7, 3) := by decide +kernel
theorem d_Ma_jumps_105 : decode b_Ma_jumps 105 = .ok (.iconst 1, 1) := by decide +kernel
theorem d_Ma_jumps_106 : decode b_Ma_jumps 106 = .ok (.goto 4, 3) := by decide +kernel
theorem d_Ma_jumps_109 : decode b_Ma_jumps 109 = .ok (.iconst 0, 1) := by decide +kernel
theorem d_Ma_jumps_110 : decode b_Ma_jumps 110 = .ok (.ireturn, 1) := by decide +kernel
abbrev ru_Ma_jumps : Room := { frames := 2, cells := 0, slots := 0, locals := 40 }
def wj_Ma_jumps_110 (y : Ly) (Post : St → Int32 → Prop) (a0 : Nat) (s_j110 : St) (z0j110 : Int32) : Prop := (nb z0j110 ∧ Post s_j110 z0j110)
def wj_Ma_jumps_100 (y : Ly) (Post : St → Int32 → Prop) (a0 : Nat) (s_j100 : St) (x4j100 : Int32) (z0j100 : Int32) : Prop := ((¬ z0j100 = x4j100 → wj_Ma_jumps_110 y Post a0 s_j100 0) ∧ (z0j100 = x4j100 → wj_Ma_jumps_110 y Post a0 s_j100 1))
def wj_Ma_jumps_88 (y : Ly) (Post : St → Int32 → Prop) (a0 : Nat) (s_j88 : St) (x2j88 : Int32) (x3j88 : Int32) (z0j88 : Int32) : Prop := ((¬ x2j88 = x3j88 → wj_Ma_jumps_100 y Post a0 s_j88 z0j88 0) ∧ (x2j88 = x3j88 → wj_Ma_jumps_100 y Post a0 s_j88 z0j88 1))
def wj_Ma_jumps_83 (y : Ly) (Post : St → Int32 → Prop) (a0 : Nat) (s_j83 : St) (x2j83 : Int32) (x3j83 : Int32) : Prop := wj_Ma_jumps_88 y Post a0 s_j83 x2j83 x3j83 1
def wj_Ma_jumps_70 (y : Ly) (Post : St → Int32 → Prop) (a0 : Nat) (s_j70 : St) (x1j70 : Int32) (x2j70 : Int32) (z0j70 : Int32) : Prop := ((x1j70 = 36 → wj_Ma_jumps_83 y Post a0 s_j70 x2j70 z0j70) ∧ (¬ (x1j70 = 36) → ((¬ x1j70 = 38 → wj_Ma_jumps_88 y Post a0 s_j70 x2j70 z0j70 0) ∧ (x1j70 = 38 → wj_Ma_jumps_83 y Post a0 s_j70 x2j70 z0j70))))
def wu_Ma_jumps (y : Ly) (Post : St → Int32 → Prop) (σ : St) (a0 : Nat) (v1 : Int32) : Prop := ((¬ v1 = 23 → ((30 ≤ v1 → ((36 ≤ v1 → wu_Ru_popNumber y (fun (s_2 : St) (r_1 : Int32) => ((38 ≤ v1 → wu_Ru_popNumber y (fun (s_4 : St) (r_3 : Int32) => wj_Ma_jumps_70 y Post a0 s_4 v1 r_1 r_3) s_2 a0) ∧ (¬ (38 ≤ v1) → wj_Ma_jumps_70 y Post a0 s_2 v1 r_1 0))) σ a0) ∧ (¬ (36 ≤ v1) → wu_Ru_popNumber y (fun (s_6 : St) (r_5 : Int32) => wu_Ru_popNumber y (fun (s_8 : St) (r_7 : Int32) => wu_Ma_holds y (fun (s_10 : St) (r_9 : Int32) => (nb r_9 ∧ Post s_10 r_9)) s_8 (v1 - 30) r_7 r_5) s_6 a0) σ a0))) ∧ (¬ (30 ≤ v1) → wu_Ru_popNumber y (fun (s_12 : St) (r_11 : Int32) => wu_Ma_holds y (fun (s_14 : St) (r_13 : Int32) => (nb r_13 ∧ Post s_14 r_13)) s_12 (v1 - 24) r_11 0) σ a0))) ∧ (v1 = 23 → (nb 1 ∧ Post σ 1)))
set_option maxHeartbeats 4000000 in
set_option maxRecDepth 100000 in
theorem cu_Ma_jumps (l : Launch) (D : va_G) (g : Nat → ClassId) (ad : Nat → Nat) (y : Ly) (Post : St → Int32 → Prop) (σ : St) (a0 : Nat) (v1 : Int32) (sz : Nat) (h_a0 : cl a0 = 7) (h : wu_Ma_jumps y Post σ a0 v1) : Met l y_Ma_jumps (mw y_Ma_jumps b_Ma_jumps 5 (some (.boolean))) ru_Ma_jumps (PC g D [] [.ref (ad a0), .int v1] sz (ws g ad y σ)) (va_Qi (fun (r : Int32) (u : St) => Post u r) (QW D (va_A (ws g ad y σ) sz) (fun u => ws g ad y u)) (va_A (ws g ad y σ) sz)) 0 0 (va_A (ws g ad y σ) sz) := by
  refine ofZ (by decide +kernel) (Nat.le_of_ble_eq_true rfl) ?_
  intro p e s m args below meth c A Q ls H locs G hsz hP hD hS hl hret
  subst hsz
  have hl : lv_has ls 5 [(0, .ref (ad a0)), (1, .int v1)] := hl
  unfold wu_Ma_jumps at h
  refine lv_iload_n G.1 G.2.1 d_Ma_jumps_0 rfl (lv_at hl 1 rfl) ?_
  refine lv_bipush (v := 23) G.1 G.2.1 d_Ma_jumps_1 (by decide) ?_
  refine lv_icmp_ne (tgt := 8) G.1 G.2.1 d_Ma_jumps_3 (by decide) (fun c3 => ?_) (fun c3 => ?_)
  · skip
    have h := h.1 c3
    refine lv_iload_n G.1 G.2.1 d_Ma_jumps_8 rfl (lv_at hl 1 rfl) ?_
    refine lv_bipush (v := 30) G.1 G.2.1 d_Ma_jumps_9 (by decide) ?_
    refine lv_icmp_ge (tgt := 27) G.1 G.2.1 d_Ma_jumps_11 (by decide) (fun c11 => ?_) (fun c11 => ?_)
    · skip
      have h := h.1 c11
      refine lv_iload_n G.1 G.2.1 d_Ma_jumps_27 rfl (lv_at hl 1 rfl) ?_
      refine lv_bipush (v := 36) G.1 G.2.1 d_Ma_jumps_28 (by decide) ?_
      refine lv_icmp_ge (tgt := 51) G.1 G.2.1 d_Ma_jumps_30 (by decide) (fun c30 => ?_) (fun c30 => ?_)
      · skip
        have h := h.1 c30
        refine lv_aload_n G.1 G.2.1 d_Ma_jumps_51 rfl (lv_at hl 0 rfl) ?_
        refine ucVi (As := []) (rest := []) G hP hD hS (cu_Ru_popNumber l D g ad y _ σ a0 H.size h_a0 h) w9_Ru_popNumber q1940 ⟨Nat.le_of_ble_eq_true rfl, Nat.le_of_ble_eq_true rfl⟩ rfl rfl h_a0 (q := (RRu, TRu, 19)) rfl rfl hl.1 rfl (Nat.le_of_ble_eq_true rfl) rfl ⟨Nat.le_refl _, Nat.le_refl _⟩ d_Ma_jumps_52 (fun r_1 s_2 H locs h hP hD hS => ?_)
        refine W.eq (g2 := F0 m 55 ls [.int r_1]) rfl ?_
        refine lv_istore_n (lv' := [(2, .int r_1), (0, .ref (ad a0)), (1, .int v1)]) G.1 G.2.1 d_Ma_jumps_55 rfl hl (by decide) rfl (fun ls hl => ?_)
        refine lv_iload_n G.1 G.2.1 d_Ma_jumps_56 rfl (lv_at hl 2 rfl) ?_
        refine lv_bipush (v := 38) G.1 G.2.1 d_Ma_jumps_57 (by decide) ?_
        have J_70 : ∀ (s_j70 : St) (x1j70 : Int32) (x2j70 : Int32) (z0j70 : Int32) (H : Heap) (locs : List Loc), wj_Ma_jumps_70 y Post a0 s_j70 x1j70 x2j70 z0j70 → va_P D CL (ws g ad y s_j70) H → va_D A (ws g ad y s_j70) → va_S A s.heap H locs → ∀ ls, lv_has ls 5 [(1, .int x1j70), (2, .int x2j70)] → W p l e ru_Ma_jumps s m args below meth c H locs 0 0 Q (F0 m 70 ls [.int z0j70]) := by
          intro s_j70 x1j70 x2j70 z0j70 H locs h hP hD hS ls hl
          unfold wj_Ma_jumps_70 at h
          refine lv_istore_n (lv' := [(3, .int z0j70), (1, .int x1j70), (2, .int x2j70)]) G.1 G.2.1 d_Ma_jumps_70 rfl hl (by decide) rfl (fun ls hl => ?_)
          refine lv_iload_n G.1 G.2.1 d_Ma_jumps_71 rfl (lv_at hl 1 rfl) ?_
          refine lv_bipush (v := 36) G.1 G.2.1 d_Ma_jumps_72 (by decide) ?_
          have J_88 : ∀ (s_j88 : St) (x2j88 : Int32) (x3j88 : Int32) (z0j88 : Int32) (H : Heap) (locs : List Loc), wj_Ma_jumps_88 y Post a0 s_j88 x2j88 x3j88 z0j88 → va_P D CL (ws g ad y s_j88) H → va_D A (ws g ad y s_j88) → va_S A s.heap H locs → ∀ ls, lv_has ls 5 [(2, .int x2j88), (3, .int x3j88)] → W p l e ru_Ma_jumps s m args below meth c H locs 0 0 Q (F0 m 88 ls [.int z0j88]) := by
            intro s_j88 x2j88 x3j88 z0j88 H locs h hP hD hS ls hl
            unfold wj_Ma_jumps_88 at h
            refine lv_istore (lv' := [(4, .int z0j88), (2, .int x2j88), (3, .int x3j88)]) G.1 G.2.1 d_Ma_jumps_88 hl (by decide) rfl (fun ls hl => ?_)
            refine lv_iload_n G.1 G.2.1 d_Ma_jumps_90 rfl (lv_at hl 1 rfl) ?_
            refine lv_iload_n G.1 G.2.1 d_Ma_jumps_91 rfl (lv_at hl 2 rfl) ?_
            have J_100 : ∀ (s_j100 : St) (x4j100 : Int32) (z0j100 : Int32) (H : Heap) (locs : List Loc), wj_Ma_jumps_100 y Post a0 s_j100 x4j100 z0j100 → va_P D CL (ws g ad y s_j100) H → va_D A (ws g ad y s_j100) → va_S A s.heap H locs → ∀ ls, lv_has ls 5 [(4, .int x4j100)] → W p l e ru_Ma_jumps s m args below meth c H locs 0 0 Q (F0 m 100 ls [.int z0j100]) := by
              intro s_j100 x4j100 z0j100 H locs h hP hD hS ls hl
              unfold wj_Ma_jumps_100 at h
              refine lv_iload G.1 G.2.1 d_Ma_jumps_100 (lv_at hl 0 rfl) ?_
              have J_110 : ∀ (s_j110 : St) (z0j110 : Int32) (H : Heap) (locs : List Loc), wj_Ma_jumps_110 y Post a0 s_j110 z0j110 → va_P D CL (ws g ad y s_j110) H → va_D A (ws g ad y s_j110) → va_S A s.heap H locs → ∀ ls, lv_has ls 5 [] → W p l e ru_Ma_jumps s m args below meth c H locs 0 0 Q (F0 m 110 ls [.int z0j110]) := by
                intro s_j110 z0j110 H locs h hP hD hS ls hl
                unfold wj_Ma_jumps_110 at h
                exact hret _ _ _ _ _ _ _ ls (nb_n h.1) h.2 hP hD hS (Nat.le_refl _) (Nat.le_refl _) d_Ma_jumps_110
              refine lv_icmp_ne (tgt := 109) G.1 G.2.1 d_Ma_jumps_102 (by decide) (fun c102 => ?_) (fun c102 => ?_)
              · skip
                have h := h.1 c102
                refine lv_iconst (v := 0) G.1 G.2.1 d_Ma_jumps_109 (by decide) ?_
                exact J_110 s_j100 0 H locs h hP hD hS ls (lv_sub hl [] rfl)
              · skip
                have h := h.2 c102
                refine lv_iconst (v := 1) G.1 G.2.1 d_Ma_jumps_105 (by decide) ?_
                refine lv_goto (tgt := 110) G.1 G.2.1 d_Ma_jumps_106 (by decide) ?_
                exact J_110 s_j100 1 H locs h hP hD hS ls (lv_sub hl [] rfl)
            refine lv_icmp_ne (tgt := 99) G.1 G.2.1 d_Ma_jumps_92 (by decide) (fun c92 => ?_) (fun c92 => ?_)
            · skip
              have h := h.1 c92
              refine lv_iconst (v := 0) G.1 G.2.1 d_Ma_jumps_99 (by decide) ?_
              exact J_100 s_j88 z0j88 0 H locs h hP hD hS ls (lv_sub hl [0] rfl)
            · skip
              have h := h.2 c92
              refine lv_iconst (v := 1) G.1 G.2.1 d_Ma_jumps_95 (by decide) ?_
              refine lv_goto (tgt := 100) G.1 G.2.1 d_Ma_jumps_96 (by decide) ?_
              exact J_100 s_j88 z0j88 1 H locs h hP hD hS ls (lv_sub hl [0] rfl)
          have J_83 : ∀ (s_j83 : St) (x2j83 : Int32) (x3j83 : Int32) (H : Heap) (locs : List Loc), wj_Ma_jumps_83 y Post a0 s_j83 x2j83 x3j83 → va_P D CL (ws g ad y s_j83) H → va_D A (ws g ad y s_j83) → va_S A s.heap H locs → ∀ ls, lv_has ls 5 [(2, .int x2j83), (3, .int x3j83)] → W p l e ru_Ma_jumps s m args below meth c H locs 0 0 Q (F0 m 83 ls []) := by
            intro s_j83 x2j83 x3j83 H locs h hP hD hS ls hl
            unfold wj_Ma_jumps_83 at h
            refine lv_iconst (v := 1) G.1 G.2.1 d_Ma_jumps_83 (by decide) ?_
            refine lv_goto (tgt := 88) G.1 G.2.1 d_Ma_jumps_84 (by decide) ?_
            exact J_88 s_j83 x2j83 x3j83 1 H locs h hP hD hS ls (lv_sub hl [0, 1] rfl)
          refine lv_icmp_eq (tgt := 83) G.1 G.2.1 d_Ma_jumps_74 (by decide) (fun c74 => ?_) (fun c74 => ?_)
          · skip
            have h := h.1 c74
            exact J_83 s_j70 x2j70 z0j70 H locs h hP hD hS ls (lv_sub hl [2, 0] rfl)
          · skip
            have h := h.2 c74
            refine lv_iload_n G.1 G.2.1 d_Ma_jumps_77 rfl (lv_at hl 1 rfl) ?_
            refine lv_bipush (v := 38) G.1 G.2.1 d_Ma_jumps_78 (by decide) ?_
            refine lv_icmp_ne (tgt := 87) G.1 G.2.1 d_Ma_jumps_80 (by decide) (fun c80 => ?_) (fun c80 => ?_)
            · skip
              have h := h.1 c80
              refine lv_iconst (v := 0) G.1 G.2.1 d_Ma_jumps_87 (by decide) ?_
              exact J_88 s_j70 x2j70 z0j70 0 H locs h hP hD hS ls (lv_sub hl [2, 0] rfl)
            · skip
              have h := h.2 c80
              exact J_83 s_j70 x2j70 z0j70 H locs h hP hD hS ls (lv_sub hl [2, 0] rfl)
        refine lv_icmp_ge (tgt := 66) G.1 G.2.1 d_Ma_jumps_59 (by decide) (fun c59 => ?_) (fun c59 => ?_)
        · skip
          have h := h.1 c59
          refine lv_aload_n G.1 G.2.1 d_Ma_jumps_66 rfl (lv_at hl 1 rfl) ?_
          refine ucVi (As := []) (rest := []) G hP hD hS (cu_Ru_popNumber l D g ad y _ s_2 a0 H.size h_a0 h) w9_Ru_popNumber q1940 ⟨Nat.le_of_ble_eq_true rfl, Nat.le_of_ble_eq_true rfl⟩ rfl rfl h_a0 (q := (RRu, TRu, 19)) rfl rfl hl.1 rfl (Nat.le_of_ble_eq_true rfl) rfl ⟨Nat.le_refl _, Nat.le_refl _⟩ d_Ma_jumps_67 (fun r_3 s_4 H locs h hP hD hS => ?_)
          exact J_70 s_4 v1 r_1 r_3 H locs h hP hD hS ls (lv_sub hl [2, 0] rfl)
        · skip
          have h := h.2 c59
          refine lv_iconst (v := 0) G.1 G.2.1 d_Ma_jumps_62 (by decide) ?_
          refine lv_goto (tgt := 70) G.1 G.2.1 d_Ma_jumps_63 (by decide) ?_
          exact J_70 s_2 v1 r_1 0 H locs h hP hD hS ls (lv_sub hl [2, 0] rfl)
      · skip
        have h := h.2 c30
        refine lv_aload_n G.1 G.2.1 d_Ma_jumps_33 rfl (lv_at hl 0 rfl) ?_
        refine ucVi (As := []) (rest := []) G hP hD hS (cu_Ru_popNumber l D g ad y _ σ a0 H.size h_a0 h) w9_Ru_popNumber q1940 ⟨Nat.le_of_ble_eq_true rfl, Nat.le_of_ble_eq_true rfl⟩ rfl rfl h_a0 (q := (RRu, TRu, 19)) rfl rfl hl.1 rfl (Nat.le_of_ble_eq_true rfl) rfl ⟨Nat.le_refl _, Nat.le_refl _⟩ d_Ma_jumps_34 (fun r_5 s_6 H locs h hP hD hS => ?_)
        refine W.eq (g2 := F0 m 37 ls [.int r_5]) rfl ?_
        refine lv_istore_n (lv' := [(2, .int r_5), (0, .ref (ad a0)), (1, .int v1)]) G.1 G.2.1 d_Ma_jumps_37 rfl hl (by decide) rfl (fun ls hl => ?_)
        refine lv_iload_n G.1 G.2.1 d_Ma_jumps_38 rfl (lv_at hl 2 rfl) ?_
        refine lv_bipush (v := 30) G.1 G.2.1 d_Ma_jumps_39 (by decide) ?_
        refine lv_isub G.1 G.2.1 d_Ma_jumps_41 ?_
        refine lv_aload_n G.1 G.2.1 d_Ma_jumps_42 rfl (lv_at hl 1 rfl) ?_
        refine ucVi (As := []) (rest := [.int (v1 - 30)]) G hP hD hS (cu_Ru_popNumber l D g ad y _ s_6 a0 H.size h_a0 h) w9_Ru_popNumber q1940 ⟨Nat.le_of_ble_eq_true rfl, Nat.le_of_ble_eq_true rfl⟩ rfl rfl h_a0 (q := (RRu, TRu, 19)) rfl rfl hl.1 rfl (Nat.le_of_ble_eq_true rfl) rfl ⟨Nat.le_refl _, Nat.le_refl _⟩ d_Ma_jumps_43 (fun r_7 s_8 H locs h hP hD hS => ?_)
        refine lv_iload_n G.1 G.2.1 d_Ma_jumps_46 rfl (lv_at hl 0 rfl) ?_
        refine ucSi (As := [.int (v1 - 30), .int r_7, .int r_5]) (rest := []) G hP hD hS (cu_Ma_holds l D g ad y _ s_8 (v1 - 30) r_7 r_5 H.size  h) w9_Ma_holds q1948 ⟨Nat.le_of_ble_eq_true rfl, Nat.le_of_ble_eq_true rfl⟩ rfl rfl hl.1 rfl (Nat.le_of_ble_eq_true rfl) rfl ⟨Nat.le_refl _, Nat.le_refl _⟩ d_Ma_jumps_47 (fun r_9 s_10 H locs h hP hD hS => ?_)
        exact hret _ _ _ _ _ _ _ ls (nb_n h.1) h.2 hP hD hS (Nat.le_refl _) (Nat.le_refl _) d_Ma_jumps_50
    · skip
      have h := h.2 c11
      refine lv_iload_n G.1 G.2.1 d_Ma_jumps_14 rfl (lv_at hl 1 rfl) ?_
      refine lv_bipush (v := 24) G.1 G.2.1 d_Ma_jumps_15 (by decide) ?_
      refine lv_isub G.1 G.2.1 d_Ma_jumps_17 ?_
      refine lv_aload_n G.1 G.2.1 d_Ma_jumps_18 rfl (lv_at hl 0 rfl) ?_
      refine ucVi (As := []) (rest := [.int (v1 - 24)]) G hP hD hS (cu_Ru_popNumber l D g ad y _ σ a0 H.size h_a0 h) w9_Ru_popNumber q1940 ⟨Nat.le_of_ble_eq_true rfl, Nat.le_of_ble_eq_true rfl⟩ rfl rfl h_a0 (q := (RRu, TRu, 19)) rfl rfl hl.1 rfl (Nat.le_of_ble_eq_true rfl) rfl ⟨Nat.le_refl _, Nat.le_refl _⟩ d_Ma_jumps_19 (fun r_11 s_12 H locs h hP hD hS => ?_)
      refine W.eq (g2 := F0 m 22 ls [.int r_11, .int (v1 - 24)]) rfl ?_
      refine lv_iconst (v := 0) G.1 G.2.1 d_Ma_jumps_22 (by decide) ?_
      refine ucSi (As := [.int (v1 - 24), .int r_11, .int 0]) (rest := []) G hP hD hS (cu_Ma_holds l D g ad y _ s_12 (v1 - 24) r_11 0 H.size  h) w9_Ma_holds q1948 ⟨Nat.le_of_ble_eq_true rfl, Nat.le_of_ble_eq_true rfl⟩ rfl rfl hl.1 rfl (Nat.le_of_ble_eq_true rfl) rfl ⟨Nat.le_refl _, Nat.le_refl _⟩ d_Ma_jumps_23 (fun r_13 s_14 H locs h hP hD hS => ?_)
      exact hret _ _ _ _ _ _ _ ls (nb_n h.1) h.2 hP hD hS (Nat.le_refl _) (Nat.le_refl _) d_Ma_jumps_26
  · skip
    have h := h.2 c3
    refine lv_iconst (v := 1) G.1 G.2.1 d_Ma_jumps_6 (by decide) ?_
    exact hret _ _ _ _ _ _ _ ls (nb_n h.1) h.2 hP hD hS (Nat.le_refl _) (Nat.le_refl _) d_Ma_jumps_7
def y_Ru_pushNumber : MethodName := ⟨"ClassWorks$Runner", "pushNumber", "(I)V"⟩
abbrev b_Ru_pushNumber : ByteArray := prog_9_method_13_code
theorem q1959 : Cond.constantLong "ClassWorks$Runner" 79 (4294967295) ∈ lw_ok := lw_okmem (List.mem_of_getElem? (i := 1959) (by decide +kernel)) rfl
theorem q1960 : Cond.methodLink "ClassWorks$Runner" 81 y_Ru_push ∈ lw_ok := lw_okmem (List.mem_of_getElem? (i := 1960) (by decide +kernel)) rfl
theorem d_Ru_pushNumber_0 : decode b_Ru_pushNumber 0 = .ok (.aload_n 0, 1) := by decide +kernel
theorem d_Ru_pushNumber_1 : decode b_Ru_pushNumber 1 = .ok (.iload_n 1, 1) := by decide +kernel
theorem d_Ru_pushNumber_2 : decode b_Ru_pushNumber 2 = .ok (.i2l, 1) := by decide +kernel
theorem d_Ru_pushNumber_3 : decode b_Ru_pushNumber 3 = .ok (.ldc2_w 79, 3) := by decide +kernel
theorem d_Ru_pushNumber_6 : decode b_Ru_pushNumber 6 = .ok (.land, 1) := by decide +kernel
theorem d_Ru_pushNumber_7 : decode b_Ru_pushNumber 7 = .ok (.invokevirtual 81, 3) := by decide +kernel
theorem d_Ru_pushNumber_10 : decode b_Ru_pushNumber 10 = .ok (.return_, 1) := by decide +kernel
abbrev ru_Ru_pushNumber : Room := { frames := 1, cells := 0, slots := 0, locals := 22 }
def wu_Ru_pushNumber (y : Ly) (Post : St → Prop) (σ : St) (a0 : Nat) (v1 : Int32) : Prop := wu_Ru_push y (fun (s_2 : St) => Post s_2) σ a0 (v1.toInt64 &&& (4294967295))
set_option maxHeartbeats 4000000 in
set_option maxRecDepth 100000 in
theorem cu_Ru_pushNumber (l : Launch) (D : va_G) (g : Nat → ClassId) (ad : Nat → Nat) (y : Ly) (Post : St → Prop) (σ : St) (a0 : Nat) (v1 : Int32) (sz : Nat) (h_a0 : cl a0 = 7) (h : wu_Ru_pushNumber y Post σ a0 v1) : Met l y_Ru_pushNumber (mw y_Ru_pushNumber b_Ru_pushNumber 2 (none)) ru_Ru_pushNumber (PC g D [] [.ref (ad a0), .int v1] sz (ws g ad y σ)) (va_Qv (fun u : St => Post u) (QW D (va_A (ws g ad y σ) sz) (fun u => ws g ad y u)) (va_A (ws g ad y σ) sz)) 0 0 (va_A (ws g ad y σ) sz) := by
  refine ofV (by decide +kernel) (Nat.le_of_ble_eq_true rfl) ?_
  intro p e s m args below meth c A Q ls H locs G hsz hP hD hS hl hret
  subst hsz
  have hl : lv_has ls 2 [(0, .ref (ad a0)), (1, .int v1)] := hl
  unfold wu_Ru_pushNumber at h
  refine lv_aload_n G.1 G.2.1 d_Ru_pushNumber_0 rfl (lv_at hl 0 rfl) ?_
  refine lv_iload_n G.1 G.2.1 d_Ru_pushNumber_1 rfl (lv_at hl 1 rfl) ?_
  refine lv_i2l G.1 G.2.1 d_Ru_pushNumber_2 rfl ?_
  refine lv_ldc2 (v := (4294967295)) G.1 G.2.1 G.2.2.2.2.2.2.1 (G.2.2.2.2.2.1 _ q1959) d_Ru_pushNumber_3 ?_
  refine lv_land G.1 G.2.1 d_Ru_pushNumber_6 ?_
  refine ucVv (As := [.long (v1.toInt64 &&& (4294967295))]) (rest := []) G hP hD hS (cu_Ru_push l D g ad y _ σ a0 (v1.toInt64 &&& (4294967295)) H.size h_a0 h) w9_Ru_push q1960 ⟨Nat.le_of_ble_eq_true rfl, Nat.le_of_ble_eq_true rfl⟩ rfl rfl h_a0 (q := (RRu, TRu, 19)) rfl rfl hl.1 rfl (Nat.le_of_ble_eq_true rfl) rfl ⟨Nat.le_refl _, Nat.le_refl _⟩ d_Ru_pushNumber_7 (fun s_2 H locs h hP hD hS => ?_)
  exact hret _ _ _ _ _ _ ls h hP hD hS (Nat.le_refl _) (Nat.le_refl _) d_Ru_pushNumber_10
def y_Ru_pushReference : MethodName := ⟨"ClassWorks$Runner", "pushReference", "(I)V"⟩
abbrev b_Ru_pushReference : ByteArray := prog_9_method_14_code
theorem q1965 : Cond.constantLong "ClassWorks$Runner" 85 (4294967296) ∈ lw_ok := lw_okmem (List.mem_of_getElem? (i := 1965) (by decide +kernel)) rfl
theorem d_Ru_pushReference_0 : decode b_Ru_pushReference 0 = .ok (.aload_n 0, 1) := by decide +kernel
theorem d_Ru_pushReference_1 : decode b_Ru_pushReference 1 = .ok (.ldc2_w 85, 3) := by decide +kernel
theorem d_Ru_pushReference_4 : decode b_Ru_pushReference 4 = .ok (.iload_n 1, 1) := by decide +kernel
theorem d_Ru_pushReference_5 : decode b_Ru_pushReference 5 = .ok (.i2l, 1) := by decide +kernel
theorem d_Ru_pushReference_6 : decode b_Ru_pushReference 6 = .ok (.lor, 1) := by decide +kernel
theorem d_Ru_pushReference_7 : decode b_Ru_pushReference 7 = .ok (.invokevirtual 81, 3) := by decide +kernel
theorem d_Ru_pushReference_10 : decode b_Ru_pushReference 10 = .ok (.return_, 1) := by decide +kernel
abbrev ru_Ru_pushReference : Room := { frames := 1, cells := 0, slots := 0, locals := 22 }
def wu_Ru_pushReference (y : Ly) (Post : St → Prop) (σ : St) (a0 : Nat) (v1 : Int32) : Prop := wu_Ru_push y (fun (s_2 : St) => Post s_2) σ a0 ((4294967296) ||| v1.toInt64)
set_option maxHeartbeats 4000000 in
set_option maxRecDepth 100000 in
theorem cu_Ru_pushReference (l : Launch) (D : va_G) (g : Nat → ClassId) (ad : Nat → Nat) (y : Ly) (Post : St → Prop) (σ : St) (a0 : Nat) (v1 : Int32) (sz : Nat) (h_a0 : cl a0 = 7) (h : wu_Ru_pushReference y Post σ a0 v1) : Met l y_Ru_pushReference (mw y_Ru_pushReference b_Ru_pushReference 2 (none)) ru_Ru_pushReference (PC g D [] [.ref (ad a0), .int v1] sz (ws g ad y σ)) (va_Qv (fun u : St => Post u) (QW D (va_A (ws g ad y σ) sz) (fun u => ws g ad y u)) (va_A (ws g ad y σ) sz)) 0 0 (va_A (ws g ad y σ) sz) := by
  refine ofV (by decide +kernel) (Nat.le_of_ble_eq_true rfl) ?_
  intro p e s m args below meth c A Q ls H locs G hsz hP hD hS hl hret
  subst hsz
  have hl : lv_has ls 2 [(0, .ref (ad a0)), (1, .int v1)] := hl
  unfold wu_Ru_pushReference at h
  refine lv_aload_n G.1 G.2.1 d_Ru_pushReference_0 rfl (lv_at hl 0 rfl) ?_
  refine lv_ldc2 (v := (4294967296)) G.1 G.2.1 G.2.2.2.2.2.2.1 (G.2.2.2.2.2.1 _ q1965) d_Ru_pushReference_1 ?_
  refine lv_iload_n G.1 G.2.1 d_Ru_pushReference_4 rfl (lv_at hl 1 rfl) ?_
  refine lv_i2l G.1 G.2.1 d_Ru_pushReference_5 rfl ?_
  refine lv_lor G.1 G.2.1 d_Ru_pushReference_6 ?_
  refine ucVv (As := [.long ((4294967296) ||| v1.toInt64)]) (rest := []) G hP hD hS (cu_Ru_push l D g ad y _ σ a0 ((4294967296) ||| v1.toInt64) H.size h_a0 h) w9_Ru_push q1960 ⟨Nat.le_of_ble_eq_true rfl, Nat.le_of_ble_eq_true rfl⟩ rfl rfl h_a0 (q := (RRu, TRu, 19)) rfl rfl hl.1 rfl (Nat.le_of_ble_eq_true rfl) rfl ⟨Nat.le_refl _, Nat.le_refl _⟩ d_Ru_pushReference_7 (fun s_2 H locs h hP hD hS => ?_)
  exact hret _ _ _ _ _ _ ls h hP hD hS (Nat.le_refl _) (Nat.le_refl _) d_Ru_pushReference_10
def y_Ru_local : MethodName := ⟨"ClassWorks$Runner", "local", "(I)J"⟩
abbrev b_Ru_local : ByteArray := prog_9_method_7_code
theorem d_Ru_local_0 : decode b_Ru_local 0 = .ok (.aload_n 0, 1) := by decide +kernel
theorem d_Ru_local_1 : decode b_Ru_local 1 = .ok (.getfield 59, 3) := by decide +kernel
theorem d_Ru_local_4 : decode b_Ru_local 4 = .ok (.aload_n 0, 1) := by decide +kernel
theorem d_Ru_local_5 : decode b_Ru_local 5 = .ok (.getfield 44, 3) := by decide +kernel
theorem d_Ru_local_8 : decode b_Ru_local 8 = .ok (.iconst 1, 1) := by decide +kernel
theorem d_Ru_local_9 : decode b_Ru_local 9 = .ok (.isub, 1) := by decide +kernel
theorem d_Ru_local_10 : decode b_Ru_local 10 = .ok (.bipush 40, 2) := by decide +kernel
theorem d_Ru_local_12 : decode b_Ru_local 12 = .ok (.imul, 1) := by decide +kernel
theorem d_Ru_local_13 : decode b_Ru_local 13 = .ok (.iload_n 1, 1) := by decide +kernel
theorem d_Ru_local_14 : decode b_Ru_local 14 = .ok (.iadd, 1) := by decide +kernel
theorem d_Ru_local_15 : decode b_Ru_local 15 = .ok (.laload, 1) := by decide +kernel
theorem d_Ru_local_16 : decode b_Ru_local 16 = .ok (.lreturn, 1) := by decide +kernel
abbrev ru_Ru_local : Room := { frames := 0, cells := 0, slots := 0, locals := 0 }
def wu_Ru_local (y : Ly) (Post : St → Int64 → Prop) (σ : St) (a0 : Nat) (v1 : Int32) : Prop := xB y σ a0 15 ((((sV σ a0 10) - 1) * 40) + v1) (fun x_1 : Int64 => Post σ x_1)
set_option maxHeartbeats 4000000 in
set_option maxRecDepth 100000 in
theorem cu_Ru_local (l : Launch) (D : va_G) (g : Nat → ClassId) (ad : Nat → Nat) (y : Ly) (Post : St → Int64 → Prop) (σ : St) (a0 : Nat) (v1 : Int32) (sz : Nat) (h_a0 : cl a0 = 7) (h : wu_Ru_local y Post σ a0 v1) : Met l y_Ru_local (mw y_Ru_local b_Ru_local 2 (some (.long))) ru_Ru_local (PC g D [] [.ref (ad a0), .int v1] sz (ws g ad y σ)) (va_Ql (fun (r : Int64) (u : St) => Post u r) (QW D (va_A (ws g ad y σ) sz) (fun u => ws g ad y u)) (va_A (ws g ad y σ) sz)) 0 0 (va_A (ws g ad y σ) sz) := by
  refine ofL (by decide +kernel) (Nat.le_of_ble_eq_true rfl) ?_
  intro p e s m args below meth c A Q ls H locs G hsz hP hD hS hl hret
  subst hsz
  have hl : lv_has ls 2 [(0, .ref (ad a0)), (1, .int v1)] := hl
  unfold wu_Ru_local at h
  refine lv_aload_n G.1 G.2.1 d_Ru_local_0 rfl (lv_at hl 0 rfl) ?_
  refine ugf (v := .ref (yP y a0 15)) G hP h_a0 iRu rfl 15 (by decide) rfl q1020 rfl rfl d_Ru_local_1 ?_
  refine lv_aload_n G.1 G.2.1 d_Ru_local_4 rfl (lv_at hl 0 rfl) ?_
  refine ugf (v := .int (sV σ a0 10)) G hP h_a0 iRu rfl 10 (by decide) rfl q1005 rfl rfl d_Ru_local_5 ?_
  refine lv_iconst (v := 1) G.1 G.2.1 d_Ru_local_8 (by decide) ?_
  refine lv_isub G.1 G.2.1 d_Ru_local_9 ?_
  refine lv_bipush (v := 40) G.1 G.2.1 d_Ru_local_10 (by decide) ?_
  refine lv_imul G.1 G.2.1 d_Ru_local_12 ?_
  refine lv_iload_n G.1 G.2.1 d_Ru_local_13 rfl (lv_at hl 1 rfl) ?_
  refine lv_iadd G.1 G.2.1 d_Ru_local_14 ?_
  refine ulald G hP (kdp h_a0 rfl) (typ h_a0 rfl) h d_Ru_local_15 (fun x_1 h => ?_)
  refine W.eq (g2 := F0 m 16 ls [.long x_1]) rfl ?_
  exact hret _ _ _ _ _ _ _ ls h hP hD hS (Nat.le_refl _) (Nat.le_refl _) d_Ru_local_16
def y_Ru_setLocal : MethodName := ⟨"ClassWorks$Runner", "setLocal", "(IJ)V"⟩
abbrev b_Ru_setLocal : ByteArray := prog_9_method_8_code
theorem d_Ru_setLocal_0 : decode b_Ru_setLocal 0 = .ok (.aload_n 0, 1) := by decide +kernel
theorem d_Ru_setLocal_1 : decode b_Ru_setLocal 1 = .ok (.getfield 59, 3) := by decide +kernel
theorem d_Ru_setLocal_4 : decode b_Ru_setLocal 4 = .ok (.aload_n 0, 1) := by decide +kernel
theorem d_Ru_setLocal_5 : decode b_Ru_setLocal 5 = .ok (.getfield 44, 3) := by decide +kernel
theorem d_Ru_setLocal_8 : decode b_Ru_setLocal 8 = .ok (.iconst 1, 1) := by decide +kernel
theorem d_Ru_setLocal_9 : decode b_Ru_setLocal 9 = .ok (.isub, 1) := by decide +kernel
theorem d_Ru_setLocal_10 : decode b_Ru_setLocal 10 = .ok (.bipush 40, 2) := by decide +kernel
theorem d_Ru_setLocal_12 : decode b_Ru_setLocal 12 = .ok (.imul, 1) := by decide +kernel
theorem d_Ru_setLocal_13 : decode b_Ru_setLocal 13 = .ok (.iload_n 1, 1) := by decide +kernel
theorem d_Ru_setLocal_14 : decode b_Ru_setLocal 14 = .ok (.iadd, 1) := by decide +kernel
theorem d_Ru_setLocal_15 : decode b_Ru_setLocal 15 = .ok (.lload_n 2, 1) := by decide +kernel
theorem d_Ru_setLocal_16 : decode b_Ru_setLocal 16 = .ok (.lastore, 1) := by decide +kernel
theorem d_Ru_setLocal_17 : decode b_Ru_setLocal 17 = .ok (.return_, 1) := by decide +kernel
abbrev ru_Ru_setLocal : Room := { frames := 0, cells := 0, slots := 0, locals := 0 }
def wu_Ru_setLocal (y : Ly) (Post : St → Prop) (σ : St) (a0 : Nat) (v1 : Int32) (v2 : Int64) : Prop := xT y σ a0 15 ((((sV σ a0 10) - 1) * 40) + v1) v2 (fun s_1 : St => Post s_1)
set_option maxHeartbeats 4000000 in
set_option maxRecDepth 100000 in
theorem cu_Ru_setLocal (l : Launch) (D : va_G) (g : Nat → ClassId) (ad : Nat → Nat) (y : Ly) (Post : St → Prop) (σ : St) (a0 : Nat) (v1 : Int32) (v2 : Int64) (sz : Nat) (h_a0 : cl a0 = 7) (h : wu_Ru_setLocal y Post σ a0 v1 v2) : Met l y_Ru_setLocal (mw y_Ru_setLocal b_Ru_setLocal 4 (none)) ru_Ru_setLocal (PC g D [] [.ref (ad a0), .int v1, .long v2] sz (ws g ad y σ)) (va_Qv (fun u : St => Post u) (QW D (va_A (ws g ad y σ) sz) (fun u => ws g ad y u)) (va_A (ws g ad y σ) sz)) 0 0 (va_A (ws g ad y σ) sz) := by
  refine ofV (by decide +kernel) (Nat.le_of_ble_eq_true rfl) ?_
  intro p e s m args below meth c A Q ls H locs G hsz hP hD hS hl hret
  subst hsz
  have hl : lv_has ls 4 [(0, .ref (ad a0)), (1, .int v1), (2, .long v2)] := hl
  unfold wu_Ru_setLocal at h
  refine lv_aload_n G.1 G.2.1 d_Ru_setLocal_0 rfl (lv_at hl 0 rfl) ?_
  refine ugf (v := .ref (yP y a0 15)) G hP h_a0 iRu rfl 15 (by decide) rfl q1020 rfl rfl d_Ru_setLocal_1 ?_
  refine lv_aload_n G.1 G.2.1 d_Ru_setLocal_4 rfl (lv_at hl 0 rfl) ?_
  refine ugf (v := .int (sV σ a0 10)) G hP h_a0 iRu rfl 10 (by decide) rfl q1005 rfl rfl d_Ru_setLocal_5 ?_
  refine lv_iconst (v := 1) G.1 G.2.1 d_Ru_setLocal_8 (by decide) ?_
  refine lv_isub G.1 G.2.1 d_Ru_setLocal_9 ?_
  refine lv_bipush (v := 40) G.1 G.2.1 d_Ru_setLocal_10 (by decide) ?_
  refine lv_imul G.1 G.2.1 d_Ru_setLocal_12 ?_
  refine lv_iload_n G.1 G.2.1 d_Ru_setLocal_13 rfl (lv_at hl 1 rfl) ?_
  refine lv_iadd G.1 G.2.1 d_Ru_setLocal_14 ?_
  refine lv_lload_n G.1 G.2.1 d_Ru_setLocal_15 rfl (lv_at hl 2 rfl) ?_
  refine W.eq (g2 := F0 m 16 ls [.long v2, .int ((((sV σ a0 10) - 1) * 40) + v1), .ref (yP y a0 15)]) rfl ?_
  refine ulast G hP hD hS (kdp h_a0 rfl) (typ h_a0 rfl) h d_Ru_setLocal_16 (fun s_1 H locs h hP hD hS => ?_)
  exact hret _ _ _ _ _ _ ls h hP hD hS (Nat.le_refl _) (Nat.le_refl _) d_Ru_setLocal_17
