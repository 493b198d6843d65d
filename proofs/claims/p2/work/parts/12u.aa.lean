def y_Mo_nameIn : MethodName := ⟨"ClassWorksModel", "nameIn", "([BII)I"⟩
abbrev b_Mo_nameIn : ByteArray := prog_14_method_3_code
theorem q3067 : Cond.fieldLink "ClassWorksModel" 17 "ClassWorksModel" "nameFirsts" "[I" ∈ lw_ok := lw_okmem (List.mem_of_getElem? (i := 3067) (by decide +kernel)) rfl
theorem q3068 : Cond.fieldLink "ClassWorksModel" 32 "ClassWorksModel" "names" "I" ∈ lw_ok := lw_okmem (List.mem_of_getElem? (i := 3068) (by decide +kernel)) rfl
theorem q2591 : Cond.methodLink "ClassWorksModel" 36 y_Mo_roomy ∈ lw_ok := lw_okmem (List.mem_of_getElem? (i := 2591) (by decide +kernel)) rfl
theorem q3066 : Cond.fieldLink "ClassWorksModel" 25 "ClassWorksModel" "nameNexts" "[I" ∈ lw_ok := lw_okmem (List.mem_of_getElem? (i := 3066) (by decide +kernel)) rfl
theorem q2596 : Cond.methodLink "ClassWorksModel" 43 y_Mo_room ∈ lw_ok := lw_okmem (List.mem_of_getElem? (i := 2596) (by decide +kernel)) rfl
theorem d_Mo_nameIn_0 : decode b_Mo_nameIn 0 = .ok (.iload_n 3, 1) := by decide +kernel
theorem d_Mo_nameIn_1 : decode b_Mo_nameIn 1 = .ok (.istore 4, 2) := by decide +kernel
theorem d_Mo_nameIn_3 : decode b_Mo_nameIn 3 = .ok (.iconst 0, 1) := by decide +kernel
theorem d_Mo_nameIn_4 : decode b_Mo_nameIn 4 = .ok (.istore 5, 2) := by decide +kernel
theorem d_Mo_nameIn_6 : decode b_Mo_nameIn 6 = .ok (.iload 5, 2) := by decide +kernel
theorem d_Mo_nameIn_8 : decode b_Mo_nameIn 8 = .ok (.iload_n 3, 1) := by decide +kernel
theorem d_Mo_nameIn_9 : decode b_Mo_nameIn 9 = .ok (.if_icmp .ge 23, 3) := by decide +kernel
theorem d_Mo_nameIn_12 : decode b_Mo_nameIn 12 = .ok (.bipush 31, 2) := by decide +kernel
theorem d_Mo_nameIn_14 : decode b_Mo_nameIn 14 = .ok (.iload 4, 2) := by decide +kernel
theorem d_Mo_nameIn_16 : decode b_Mo_nameIn 16 = .ok (.imul, 1) := by decide +kernel
theorem d_Mo_nameIn_17 : decode b_Mo_nameIn 17 = .ok (.aload_n 1, 1) := by decide +kernel
theorem d_Mo_nameIn_18 : decode b_Mo_nameIn 18 = .ok (.iload_n 2, 1) := by decide +kernel
theorem d_Mo_nameIn_19 : decode b_Mo_nameIn 19 = .ok (.iload 5, 2) := by decide +kernel
theorem d_Mo_nameIn_21 : decode b_Mo_nameIn 21 = .ok (.iadd, 1) := by decide +kernel
theorem d_Mo_nameIn_22 : decode b_Mo_nameIn 22 = .ok (.baload, 1) := by decide +kernel
theorem d_Mo_nameIn_23 : decode b_Mo_nameIn 23 = .ok (.iadd, 1) := by decide +kernel
theorem d_Mo_nameIn_24 : decode b_Mo_nameIn 24 = .ok (.istore 4, 2) := by decide +kernel
theorem d_Mo_nameIn_26 : decode b_Mo_nameIn 26 = .ok (.iinc 5 1, 3) := by decide +kernel
theorem d_Mo_nameIn_29 : decode b_Mo_nameIn 29 = .ok (.goto (-23), 3) := by decide +kernel
theorem d_Mo_nameIn_32 : decode b_Mo_nameIn 32 = .ok (.iload 4, 2) := by decide +kernel
theorem d_Mo_nameIn_34 : decode b_Mo_nameIn 34 = .ok (.iload 4, 2) := by decide +kernel
theorem d_Mo_nameIn_36 : decode b_Mo_nameIn 36 = .ok (.bipush 13, 2) := by decide +kernel
theorem d_Mo_nameIn_38 : decode b_Mo_nameIn 38 = .ok (.iushr, 1) := by decide +kernel
theorem d_Mo_nameIn_39 : decode b_Mo_nameIn 39 = .ok (.ixor, 1) := by decide +kernel
theorem d_Mo_nameIn_40 : decode b_Mo_nameIn 40 = .ok (.sipush 4095, 3) := by decide +kernel
theorem d_Mo_nameIn_43 : decode b_Mo_nameIn 43 = .ok (.iand, 1) := by decide +kernel
theorem d_Mo_nameIn_44 : decode b_Mo_nameIn 44 = .ok (.istore 5, 2) := by decide +kernel
theorem d_Mo_nameIn_46 : decode b_Mo_nameIn 46 = .ok (.aload_n 0, 1) := by decide +kernel
theorem d_Mo_nameIn_47 : decode b_Mo_nameIn 47 = .ok (.getfield 17, 3) := by decide +kernel
theorem d_Mo_nameIn_50 : decode b_Mo_nameIn 50 = .ok (.iload 5, 2) := by decide +kernel
theorem d_Mo_nameIn_52 : decode b_Mo_nameIn 52 = .ok (.iaload, 1) := by decide +kernel
theorem d_Mo_nameIn_53 : decode b_Mo_nameIn 53 = .ok (.istore 6, 2) := by decide +kernel
theorem d_Mo_nameIn_55 : decode b_Mo_nameIn 55 = .ok (.iload 6, 2) := by decide +kernel
theorem d_Mo_nameIn_57 : decode b_Mo_nameIn 57 = .ok (.ifCond .le 36, 3) := by decide +kernel
theorem d_Mo_nameIn_60 : decode b_Mo_nameIn 60 = .ok (.aload_n 0, 1) := by decide +kernel
theorem d_Mo_nameIn_61 : decode b_Mo_nameIn 61 = .ok (.iload 6, 2) := by decide +kernel
theorem d_Mo_nameIn_63 : decode b_Mo_nameIn 63 = .ok (.iconst 1, 1) := by decide +kernel
theorem d_Mo_nameIn_64 : decode b_Mo_nameIn 64 = .ok (.isub, 1) := by decide +kernel
theorem d_Mo_nameIn_65 : decode b_Mo_nameIn 65 = .ok (.aload_n 1, 1) := by decide +kernel
theorem d_Mo_nameIn_66 : decode b_Mo_nameIn 66 = .ok (.iload_n 2, 1) := by decide +kernel
theorem d_Mo_nameIn_67 : decode b_Mo_nameIn 67 = .ok (.iload_n 3, 1) := by decide +kernel
theorem d_Mo_nameIn_68 : decode b_Mo_nameIn 68 = .ok (.invokevirtual 21, 3) := by decide +kernel
theorem d_Mo_nameIn_71 : decode b_Mo_nameIn 71 = .ok (.ifCond .eq 8, 3) := by decide +kernel
theorem d_Mo_nameIn_74 : decode b_Mo_nameIn 74 = .ok (.iload 6, 2) := by decide +kernel
theorem d_Mo_nameIn_76 : decode b_Mo_nameIn 76 = .ok (.iconst 1, 1) := by decide +kernel
theorem d_Mo_nameIn_77 : decode b_Mo_nameIn 77 = .ok (.isub, 1) := by decide +kernel
theorem d_Mo_nameIn_78 : decode b_Mo_nameIn 78 = .ok (.ireturn, 1) := by decide +kernel
theorem d_Mo_nameIn_79 : decode b_Mo_nameIn 79 = .ok (.aload_n 0, 1) := by decide +kernel
theorem d_Mo_nameIn_80 : decode b_Mo_nameIn 80 = .ok (.getfield 25, 3) := by decide +kernel
theorem d_Mo_nameIn_83 : decode b_Mo_nameIn 83 = .ok (.iload 6, 2) := by decide +kernel
theorem d_Mo_nameIn_85 : decode b_Mo_nameIn 85 = .ok (.iconst 1, 1) := by decide +kernel
theorem d_Mo_nameIn_86 : decode b_Mo_nameIn 86 = .ok (.isub, 1) := by decide +kernel
theorem d_Mo_nameIn_87 : decode b_Mo_nameIn 87 = .ok (.iaload, 1) := by decide +kernel
theorem d_Mo_nameIn_88 : decode b_Mo_nameIn 88 = .ok (.istore 6, 2) := by decide +kernel
theorem d_Mo_nameIn_90 : decode b_Mo_nameIn 90 = .ok (.goto (-35), 3) := by decide +kernel
theorem d_Mo_nameIn_93 : decode b_Mo_nameIn 93 = .ok (.aload_n 0, 1) := by decide +kernel
theorem d_Mo_nameIn_94 : decode b_Mo_nameIn 94 = .ok (.aload_n 0, 1) := by decide +kernel
theorem d_Mo_nameIn_95 : decode b_Mo_nameIn 95 = .ok (.getfield 28, 3) := by decide +kernel
theorem d_Mo_nameIn_98 : decode b_Mo_nameIn 98 = .ok (.bipush 12, 2) := by decide +kernel
theorem d_Mo_nameIn_100 : decode b_Mo_nameIn 100 = .ok (.aload_n 0, 1) := by decide +kernel
theorem d_Mo_nameIn_101 : decode b_Mo_nameIn 101 = .ok (.getfield 32, 3) := by decide +kernel
theorem d_Mo_nameIn_104 : decode b_Mo_nameIn 104 = .ok (.iconst 1, 1) := by decide +kernel
theorem d_Mo_nameIn_105 : decode b_Mo_nameIn 105 = .ok (.iadd, 1) := by decide +kernel
theorem d_Mo_nameIn_106 : decode b_Mo_nameIn 106 = .ok (.imul, 1) := by decide +kernel
theorem d_Mo_nameIn_107 : decode b_Mo_nameIn 107 = .ok (.invokestatic 36, 3) := by decide +kernel
theorem d_Mo_nameIn_110 : decode b_Mo_nameIn 110 = .ok (.putfield 28, 3) := by decide +kernel
theorem d_Mo_nameIn_113 : decode b_Mo_nameIn 113 = .ok (.aload_n 0, 1) := by decide +kernel
theorem d_Mo_nameIn_114 : decode b_Mo_nameIn 114 = .ok (.aload_n 0, 1) := by decide +kernel
theorem d_Mo_nameIn_115 : decode b_Mo_nameIn 115 = .ok (.getfield 40, 3) := by decide +kernel
theorem d_Mo_nameIn_118 : decode b_Mo_nameIn 118 = .ok (.aload_n 0, 1) := by decide +kernel
theorem d_Mo_nameIn_119 : decode b_Mo_nameIn 119 = .ok (.getfield 32, 3) := by decide +kernel
theorem d_Mo_nameIn_122 : decode b_Mo_nameIn 122 = .ok (.iconst 1, 1) := by decide +kernel
theorem d_Mo_nameIn_123 : decode b_Mo_nameIn 123 = .ok (.iadd, 1) := by decide +kernel
theorem d_Mo_nameIn_124 : decode b_Mo_nameIn 124 = .ok (.invokestatic 36, 3) := by decide +kernel
theorem d_Mo_nameIn_127 : decode b_Mo_nameIn 127 = .ok (.putfield 40, 3) := by decide +kernel
theorem d_Mo_nameIn_130 : decode b_Mo_nameIn 130 = .ok (.aload_n 0, 1) := by decide +kernel
theorem d_Mo_nameIn_131 : decode b_Mo_nameIn 131 = .ok (.aload_n 0, 1) := by decide +kernel
theorem d_Mo_nameIn_132 : decode b_Mo_nameIn 132 = .ok (.getfield 25, 3) := by decide +kernel
theorem d_Mo_nameIn_135 : decode b_Mo_nameIn 135 = .ok (.aload_n 0, 1) := by decide +kernel
theorem d_Mo_nameIn_136 : decode b_Mo_nameIn 136 = .ok (.getfield 32, 3) := by decide +kernel
theorem d_Mo_nameIn_139 : decode b_Mo_nameIn 139 = .ok (.iconst 1, 1) := by decide +kernel
theorem d_Mo_nameIn_140 : decode b_Mo_nameIn 140 = .ok (.iadd, 1) := by decide +kernel
theorem d_Mo_nameIn_141 : decode b_Mo_nameIn 141 = .ok (.invokestatic 43, 3) := by decide +kernel
theorem d_Mo_nameIn_144 : decode b_Mo_nameIn 144 = .ok (.putfield 25, 3) := by decide +kernel
theorem d_Mo_nameIn_147 : decode b_Mo_nameIn 147 = .ok (.iconst 0, 1) := by decide +kernel
theorem d_Mo_nameIn_148 : decode b_Mo_nameIn 148 = .ok (.istore 6, 2) := by decide +kernel
theorem d_Mo_nameIn_150 : decode b_Mo_nameIn 150 = .ok (.iload 6, 2) := by decide +kernel
theorem d_Mo_nameIn_152 : decode b_Mo_nameIn 152 = .ok (.iload_n 3, 1) := by decide +kernel
theorem d_Mo_nameIn_153 : decode b_Mo_nameIn 153 = .ok (.if_icmp .ge 30, 3) := by decide +kernel
theorem d_Mo_nameIn_156 : decode b_Mo_nameIn 156 = .ok (.aload_n 0, 1) := by decide +kernel
theorem d_Mo_nameIn_157 : decode b_Mo_nameIn 157 = .ok (.getfield 28, 3) := by decide +kernel
theorem d_Mo_nameIn_160 : decode b_Mo_nameIn 160 = .ok (.bipush 12, 2) := by decide +kernel
theorem d_Mo_nameIn_162 : decode b_Mo_nameIn 162 = .ok (.aload_n 0, 1) := by decide +kernel
theorem d_Mo_nameIn_163 : decode b_Mo_nameIn 163 = .ok (.getfield 32, 3) := by decide +kernel
theorem d_Mo_nameIn_166 : decode b_Mo_nameIn 166 = .ok (.imul, 1) := by decide +kernel
theorem d_Mo_nameIn_167 : decode b_Mo_nameIn 167 = .ok (.iload 6, 2) := by decide +kernel
theorem d_Mo_nameIn_169 : decode b_Mo_nameIn 169 = .ok (.iadd, 1) := by decide +kernel
theorem d_Mo_nameIn_170 : decode b_Mo_nameIn 170 = .ok (.aload_n 1, 1) := by decide +kernel
theorem d_Mo_nameIn_171 : decode b_Mo_nameIn 171 = .ok (.iload_n 2, 1) := by decide +kernel
theorem d_Mo_nameIn_172 : decode b_Mo_nameIn 172 = .ok (.iload 6, 2) := by decide +kernel
theorem d_Mo_nameIn_174 : decode b_Mo_nameIn 174 = .ok (.iadd, 1) := by decide +kernel
theorem d_Mo_nameIn_175 : decode b_Mo_nameIn 175 = .ok (.baload, 1) := by decide +kernel
theorem d_Mo_nameIn_176 : decode b_Mo_nameIn 176 = .ok (.bastore, 1) := by decide +kernel
theorem d_Mo_nameIn_177 : decode b_Mo_nameIn 177 = .ok (.iinc 6 1, 3) := by decide +kernel
theorem d_Mo_nameIn_180 : decode b_Mo_nameIn 180 = .ok (.goto (-30), 3) := by decide +kernel
theorem d_Mo_nameIn_183 : decode b_Mo_nameIn 183 = .ok (.aload_n 0, 1) := by decide +kernel
theorem d_Mo_nameIn_184 : decode b_Mo_nameIn 184 = .ok (.getfield 40, 3) := by decide +kernel
theorem d_Mo_nameIn_187 : decode b_Mo_nameIn 187 = .ok (.aload_n 0, 1) := by decide +kernel
theorem d_Mo_nameIn_188 : decode b_Mo_nameIn 188 = .ok (.getfield 32, 3) := by decide +kernel
theorem d_Mo_nameIn_191 : decode b_Mo_nameIn 191 = .ok (.iload_n 3, 1) := by decide +kernel
theorem d_Mo_nameIn_192 : decode b_Mo_nameIn 192 = .ok (.i2b, 1) := by decide +kernel
theorem d_Mo_nameIn_193 : decode b_Mo_nameIn 193 = .ok (.bastore, 1) := by decide +kernel
theorem d_Mo_nameIn_194 : decode b_Mo_nameIn 194 = .ok (.aload_n 0, 1) := by decide +kernel
theorem d_Mo_nameIn_195 : decode b_Mo_nameIn 195 = .ok (.getfield 25, 3) := by decide +kernel
theorem d_Mo_nameIn_198 : decode b_Mo_nameIn 198 = .ok (.aload_n 0, 1) := by decide +kernel
theorem d_Mo_nameIn_199 : decode b_Mo_nameIn 199 = .ok (.getfield 32, 3) := by decide +kernel
theorem d_Mo_nameIn_202 : decode b_Mo_nameIn 202 = .ok (.aload_n 0, 1) := by decide +kernel
theorem d_Mo_nameIn_203 : decode b_Mo_nameIn 203 = .ok (.getfield 17, 3) := by decide +kernel
theorem d_Mo_nameIn_206 : decode b_Mo_nameIn 206 = .ok (.iload 5, 2) := by decide +kernel
theorem d_Mo_nameIn_208 : decode b_Mo_nameIn 208 = .ok (.iaload, 1) := by decide +kernel
theorem d_Mo_nameIn_209 : decode b_Mo_nameIn 209 = .ok (.iastore, 1) := by decide +kernel
theorem d_Mo_nameIn_210 : decode b_Mo_nameIn 210 = .ok (.aload_n 0, 1) := by decide +kernel
theorem d_Mo_nameIn_211 : decode b_Mo_nameIn 211 = .ok (.dup, 1) := by decide +kernel
theorem d_Mo_nameIn_212 : decode b_Mo_nameIn 212 = .ok (.getfield 32, 3) := by decide +kernel
theorem d_Mo_nameIn_215 : decode b_Mo_nameIn 215 = .ok (.iconst 1, 1) := by decide +kernel
theorem d_Mo_nameIn_216 : decode b_Mo_nameIn 216 = .ok (.iadd, 1) := by decide +kernel
theorem d_Mo_nameIn_217 : decode b_Mo_nameIn 217 = .ok (.putfield 32, 3) := by decide +kernel
theorem d_Mo_nameIn_220 : decode b_Mo_nameIn 220 = .ok (.aload_n 0, 1) := by decide +kernel
theorem d_Mo_nameIn_221 : decode b_Mo_nameIn 221 = .ok (.getfield 17, 3) := by decide +kernel
theorem d_Mo_nameIn_224 : decode b_Mo_nameIn 224 = .ok (.iload 5, 2) := by decide +kernel
theorem d_Mo_nameIn_226 : decode b_Mo_nameIn 226 = .ok (.aload_n 0, 1) := by decide +kernel
theorem d_Mo_nameIn_227 : decode b_Mo_nameIn 227 = .ok (.getfield 32, 3) := by decide +kernel
theorem d_Mo_nameIn_230 : decode b_Mo_nameIn 230 = .ok (.iastore, 1) := by decide +kernel
theorem d_Mo_nameIn_231 : decode b_Mo_nameIn 231 = .ok (.aload_n 0, 1) := by decide +kernel
theorem d_Mo_nameIn_232 : decode b_Mo_nameIn 232 = .ok (.getfield 32, 3) := by decide +kernel
theorem d_Mo_nameIn_235 : decode b_Mo_nameIn 235 = .ok (.iconst 1, 1) := by decide +kernel
theorem d_Mo_nameIn_236 : decode b_Mo_nameIn 236 = .ok (.isub, 1) := by decide +kernel
theorem d_Mo_nameIn_237 : decode b_Mo_nameIn 237 = .ok (.ireturn, 1) := by decide +kernel
abbrev ra_Mo_nameIn (mc ms : Nat) : Room := { frames := 2, cells := mc, slots := ms, locals := 150 }
def wba_Mo_nameIn_150 (mc ms : Nat) (Post : Ly → St → Int32 → Nat → Nat → Prop) (K_150 : Ly → St → Nat → Nat → Int32 → Int32 → Int32 → Int32 → Prop) (a0 : Nat) (a1 : Nat) (k1 : Nat) (y_h150 : Ly) (s_h150 : St) (d_h150 e_h150 : Nat) (x2h150 : Int32) (x3h150 : Int32) (x5h150 : Int32) (x6h150 : Int32) : Prop := (d_h150 ≤ mc ∧ e_h150 ≤ ms) ∧ ((x3h150 ≤ x6h150 → xS y_h150 s_h150 a0 1 (sV s_h150 a0 4) (vp_nar .byte x3h150.toInt8.toInt32) (fun s_17 : St => xA y_h150 s_17 a0 3 x5h150 (fun x_18 : Int32 => xS y_h150 s_17 a0 2 (sV s_17 a0 4) x_18 (fun s_19 : St => xP (uV s_19 a0 4 ((sV s_19 a0 4) + 1)) (fun s_20 : St => xS y_h150 s_20 a0 3 x5h150 (sV s_20 a0 4) (fun s_21 : St => Post y_h150 s_21 ((sV s_21 a0 4) - 1) d_h150 e_h150)))))) ∧ (¬ (x3h150 ≤ x6h150) → xA y_h150 s_h150 a1 k1 (x2h150 + x6h150) (fun x_22 : Int32 => xS y_h150 s_h150 a0 0 ((12 * (sV s_h150 a0 4)) + x6h150) (vp_nar .byte x_22) (fun s_23 : St => K_150 y_h150 s_23 d_h150 e_h150 x2h150 x3h150 x5h150 (x6h150 + 1)))))
def wla_Mo_nameIn_150 (mc ms : Nat) (Post : Ly → St → Int32 → Nat → Nat → Prop) (a0 : Nat) (a1 : Nat) (k1 : Nat) (y_h150 : Ly) (s_h150 : St) (d_h150 e_h150 : Nat) (x2h150 : Int32) (x3h150 : Int32) (x5h150 : Int32) (x6h150 : Int32) : Prop := ∃ (I : Ly → St → Nat → Nat → Int32 → Int32 → Int32 → Int32 → Prop) (μ : Ly → St → Nat → Nat → Int32 → Int32 → Int32 → Int32 → Nat), I y_h150 s_h150 d_h150 e_h150 x2h150 x3h150 x5h150 x6h150 ∧ ∀ (u1 : Ly) (u2 : St) (u3 u4 : Nat) (t0 : Int32) (t1 : Int32) (t2 : Int32) (t3 : Int32), I u1 u2 u3 u4 t0 t1 t2 t3 → wba_Mo_nameIn_150 mc ms Post (fun z1 z2 z3 z4 t0q t1q t2q t3q => I z1 z2 z3 z4 t0q t1q t2q t3q ∧ μ z1 z2 z3 z4 t0q t1q t2q t3q < μ u1 u2 u3 u4 t0 t1 t2 t3) a0 a1 k1 u1 u2 u3 u4 t0 t1 t2 t3
def wba_Mo_nameIn_55 (mc ms : Nat) (Post : Ly → St → Int32 → Nat → Nat → Prop) (K_55 : Ly → St → Nat → Nat → Int32 → Int32 → Int32 → Int32 → Prop) (a0 : Nat) (a1 : Nat) (k1 : Nat) (y_h55 : Ly) (s_h55 : St) (d_h55 e_h55 : Nat) (x2h55 : Int32) (x3h55 : Int32) (x5h55 : Int32) (x6h55 : Int32) : Prop := (d_h55 ≤ mc ∧ e_h55 ≤ ms) ∧ ((x6h55 ≤ 0 → xR mc ms d_h55 e_h55 .byte y_h55 s_h55 a0 0 (12 * ((sV s_h55 a0 4) + 1)) (fun (y_2 : Ly) (s_3 : St) (d_4 e_5 : Nat) => (d_4 ≤ mc ∧ e_5 ≤ ms) ∧ yP y_h55 a1 k1 = yP y_2 a1 k1 ∧ xR mc ms d_4 e_5 .byte y_2 s_3 a0 1 ((sV s_3 a0 4) + 1) (fun (y_7 : Ly) (s_8 : St) (d_9 e_10 : Nat) => (d_9 ≤ mc ∧ e_10 ≤ ms) ∧ yP y_2 a1 k1 = yP y_7 a1 k1 ∧ xR mc ms d_9 e_10 .int y_7 s_8 a0 2 ((sV s_8 a0 4) + 1) (fun (y_12 : Ly) (s_13 : St) (d_14 e_15 : Nat) => (d_14 ≤ mc ∧ e_15 ≤ ms) ∧ yP y_7 a1 k1 = yP y_12 a1 k1 ∧ wla_Mo_nameIn_150 mc ms Post a0 a1 k1 y_12 s_13 d_14 e_15 x2h55 x3h55 x5h55 0)))) ∧ (¬ (x6h55 ≤ 0) → wu_Mo_isName y_h55 (fun (s_25 : St) (r_24 : Int32) => ((r_24 = 0 → xA y_h55 s_25 a0 2 (x6h55 - 1) (fun x_26 : Int32 => K_55 y_h55 s_25 d_h55 e_h55 x2h55 x3h55 x5h55 x_26)) ∧ (¬ (r_24 = 0) → Post y_h55 s_25 (x6h55 - 1) d_h55 e_h55))) s_h55 a0 (x6h55 - 1) a1 k1 x2h55 x3h55))
def wla_Mo_nameIn_55 (mc ms : Nat) (Post : Ly → St → Int32 → Nat → Nat → Prop) (a0 : Nat) (a1 : Nat) (k1 : Nat) (y_h55 : Ly) (s_h55 : St) (d_h55 e_h55 : Nat) (x2h55 : Int32) (x3h55 : Int32) (x5h55 : Int32) (x6h55 : Int32) : Prop := ∃ (I : Ly → St → Nat → Nat → Int32 → Int32 → Int32 → Int32 → Prop) (μ : Ly → St → Nat → Nat → Int32 → Int32 → Int32 → Int32 → Nat), I y_h55 s_h55 d_h55 e_h55 x2h55 x3h55 x5h55 x6h55 ∧ ∀ (u1 : Ly) (u2 : St) (u3 u4 : Nat) (t0 : Int32) (t1 : Int32) (t2 : Int32) (t3 : Int32), I u1 u2 u3 u4 t0 t1 t2 t3 → wba_Mo_nameIn_55 mc ms Post (fun z1 z2 z3 z4 t0q t1q t2q t3q => I z1 z2 z3 z4 t0q t1q t2q t3q ∧ μ z1 z2 z3 z4 t0q t1q t2q t3q < μ u1 u2 u3 u4 t0 t1 t2 t3) a0 a1 k1 u1 u2 u3 u4 t0 t1 t2 t3
def wba_Mo_nameIn_6 (mc ms : Nat) (Post : Ly → St → Int32 → Nat → Nat → Prop) (K_6 : Ly → St → Nat → Nat → Int32 → Int32 → Int32 → Int32 → Prop) (a0 : Nat) (a1 : Nat) (k1 : Nat) (y_h6 : Ly) (s_h6 : St) (d_h6 e_h6 : Nat) (x2h6 : Int32) (x3h6 : Int32) (x4h6 : Int32) (x5h6 : Int32) : Prop := (d_h6 ≤ mc ∧ e_h6 ≤ ms) ∧ ((x3h6 ≤ x5h6 → xA y_h6 s_h6 a0 3 ((x4h6 ^^^ ((x4h6.toUInt32 >>> ((13 : Int32).toUInt32 &&& Int32.toUInt32 31)).toInt32)) &&& 4095) (fun x_1 : Int32 => wla_Mo_nameIn_55 mc ms Post a0 a1 k1 y_h6 s_h6 d_h6 e_h6 x2h6 x3h6 ((x4h6 ^^^ ((x4h6.toUInt32 >>> ((13 : Int32).toUInt32 &&& Int32.toUInt32 31)).toInt32)) &&& 4095) x_1)) ∧ (¬ (x3h6 ≤ x5h6) → xA y_h6 s_h6 a1 k1 (x2h6 + x5h6) (fun x_27 : Int32 => K_6 y_h6 s_h6 d_h6 e_h6 x2h6 x3h6 ((31 * x4h6) + x_27) (x5h6 + 1))))
def wla_Mo_nameIn_6 (mc ms : Nat) (Post : Ly → St → Int32 → Nat → Nat → Prop) (a0 : Nat) (a1 : Nat) (k1 : Nat) (y_h6 : Ly) (s_h6 : St) (d_h6 e_h6 : Nat) (x2h6 : Int32) (x3h6 : Int32) (x4h6 : Int32) (x5h6 : Int32) : Prop := ∃ (I : Ly → St → Nat → Nat → Int32 → Int32 → Int32 → Int32 → Prop) (μ : Ly → St → Nat → Nat → Int32 → Int32 → Int32 → Int32 → Nat), I y_h6 s_h6 d_h6 e_h6 x2h6 x3h6 x4h6 x5h6 ∧ ∀ (u1 : Ly) (u2 : St) (u3 u4 : Nat) (t0 : Int32) (t1 : Int32) (t2 : Int32) (t3 : Int32), I u1 u2 u3 u4 t0 t1 t2 t3 → wba_Mo_nameIn_6 mc ms Post (fun z1 z2 z3 z4 t0q t1q t2q t3q => I z1 z2 z3 z4 t0q t1q t2q t3q ∧ μ z1 z2 z3 z4 t0q t1q t2q t3q < μ u1 u2 u3 u4 t0 t1 t2 t3) a0 a1 k1 u1 u2 u3 u4 t0 t1 t2 t3
def wa_Mo_nameIn (mc ms : Nat) (y : Ly) (Post : Ly → St → Int32 → Nat → Nat → Prop) (σ : St) (a0 : Nat) (a1 : Nat) (k1 : Nat) (v2 : Int32) (v3 : Int32) : Prop := wla_Mo_nameIn_6 mc ms Post a0 a1 k1 y σ 0 0 v2 v3 v3 0
set_option maxHeartbeats 4000000 in
set_option maxRecDepth 100000 in
theorem ca_Mo_nameIn (l : Launch) (D : va_G) (g : Nat → ClassId) (ad : Nat → Nat) (mc ms : Nat) (y : Ly) (Post : Ly → St → Int32 → Nat → Nat → Prop) (σ : St) (a0 : Nat) (a1 : Nat) (k1 : Nat) (v2 : Int32) (v3 : Int32) (sz uz : Nat) (h_a0 : cl a0 = 14) (h_a1 : kd (cl a1) k1 = 2 ∧ tyx (cl a1) k1 = 1) (h : wa_Mo_nameIn mc ms y Post σ a0 a1 k1 v2 v3) : Met l y_Mo_nameIn (mw y_Mo_nameIn b_Mo_nameIn 7 (some .int)) (ra_Mo_nameIn mc ms) (PCu g D [] [.ref (ad a0), .ref (yP y a1 k1), .int v2, .int v3] sz uz (ws g ad y σ)) (va_Qi (fun (r : Int32) (u : Ly × St × Nat × Nat) => Post u.1 u.2.1 r u.2.2.1 u.2.2.2) (QU D (va_A (ws g ad y σ) sz) (fun u => ws g ad u.1 u.2.1) sz uz (fun u => u.2.2.1) (fun u => u.2.2.2)) (va_A (ws g ad y σ) sz)) mc ms (va_A (ws g ad y σ) sz) := by
  refine ofIu (by decide +kernel) (Nat.le_of_ble_eq_true rfl) ?_
  intro p e s m args below meth c A Q ls H locs G hsz hP hD hS hl hret
  subst hsz
  have hl : lv_has ls 7 [(0, .ref (ad a0)), (1, .ref (yP y a1 k1)), (2, .int v2), (3, .int v3)] := hl
  have hd : 0 ≤ mc ∧ 0 ≤ ms := ⟨Nat.zero_le _, Nat.zero_le _⟩
  unfold wa_Mo_nameIn at h
  refine lv_iload_n G.1 G.2.1 d_Mo_nameIn_0 rfl (lv_at hl 3 rfl) ?_
  refine lv_istore (lv' := [(4, .int v3), (0, .ref (ad a0)), (1, .ref (yP y a1 k1)), (2, .int v2), (3, .int v3)]) G.1 G.2.1 d_Mo_nameIn_1 hl (by decide) rfl (fun ls hl => ?_)
  refine lv_iconst (v := 0) G.1 G.2.1 d_Mo_nameIn_3 (by decide) ?_
  refine lv_istore (lv' := [(5, .int 0), (4, .int v3), (0, .ref (ad a0)), (1, .ref (yP y a1 k1)), (2, .int v2), (3, .int v3)]) G.1 G.2.1 d_Mo_nameIn_4 hl (by decide) rfl (fun ls hl => ?_)
  unfold wla_Mo_nameIn_6 at h
  obtain ⟨I_6, μ_6, hI_6, hB_6⟩ := h
  have L_6 : ∀ (n_6 : Nat) (y_h6 : Ly) (s_h6 : St) (d_h6 e_h6 : Nat) (x2h6 : Int32) (x3h6 : Int32) (x4h6 : Int32) (x5h6 : Int32), μ_6 y_h6 s_h6 d_h6 e_h6 x2h6 x3h6 x4h6 x5h6 < n_6 → I_6 y_h6 s_h6 d_h6 e_h6 x2h6 x3h6 x4h6 x5h6 → ∀ (H : Heap) (locs : List Loc), va_P D CL (ws g ad y_h6 s_h6) H → va_D A (ws g ad y_h6 s_h6) → va_S A s.heap H locs → ∀ ls, lv_has ls 7 [(0, .ref (ad a0)), (1, .ref (yP y_h6 a1 k1)), (2, .int x2h6), (3, .int x3h6), (4, .int x4h6), (5, .int x5h6)] → W p l e (ra_Mo_nameIn mc ms) s m args below meth c H locs d_h6 e_h6 Q (F0 m 6 ls []) := by
    intro n_6
    induction n_6 with
    | zero => intro y_h6 s_h6 d_h6 e_h6 x2h6 x3h6 x4h6 x5h6 hμ; exact absurd hμ (Nat.not_lt_zero _)
    | succ n_6 ih_6 =>
      intro y_h6 s_h6 d_h6 e_h6 x2h6 x3h6 x4h6 x5h6 hμ_6 hJ H locs hP hD hS ls hl
      obtain ⟨K_6, hK_6, h⟩ : ∃ K : Ly → St → Nat → Nat → Int32 → Int32 → Int32 → Int32 → Prop, (∀ z1 z2 z3 z4 (t0 : Int32) (t1 : Int32) (t2 : Int32) (t3 : Int32), K z1 z2 z3 z4 t0 t1 t2 t3 → I_6 z1 z2 z3 z4 t0 t1 t2 t3 ∧ μ_6 z1 z2 z3 z4 t0 t1 t2 t3 < μ_6 y_h6 s_h6 d_h6 e_h6 x2h6 x3h6 x4h6 x5h6) ∧ wba_Mo_nameIn_6 mc ms Post K a0 a1 k1 y_h6 s_h6 d_h6 e_h6 x2h6 x3h6 x4h6 x5h6 := ⟨_, fun _ _ _ _ _ _ _ _ h => h, hB_6 y_h6 s_h6 d_h6 e_h6 x2h6 x3h6 x4h6 x5h6 hJ⟩
      unfold wba_Mo_nameIn_6 at h
      obtain ⟨hd, h⟩ := h
      refine lv_iload G.1 G.2.1 d_Mo_nameIn_6 (lv_at hl 5 rfl) ?_
      refine lv_iload_n G.1 G.2.1 d_Mo_nameIn_8 rfl (lv_at hl 3 rfl) ?_
      refine lv_icmp_ge (tgt := 32) G.1 G.2.1 d_Mo_nameIn_9 (by decide) (fun c9 => ?_) (fun c9 => ?_)
      · skip
        have h := h.1 c9
        refine lv_iload G.1 G.2.1 d_Mo_nameIn_32 (lv_at hl 4 rfl) ?_
        refine lv_iload G.1 G.2.1 d_Mo_nameIn_34 (lv_at hl 4 rfl) ?_
        refine lv_bipush (v := 13) G.1 G.2.1 d_Mo_nameIn_36 (by decide) ?_
        refine lv_iushr G.1 G.2.1 d_Mo_nameIn_38 rfl ?_
        refine lv_ixor G.1 G.2.1 d_Mo_nameIn_39 ?_
        refine lv_sipush (v := 4095) G.1 G.2.1 d_Mo_nameIn_40 (by decide) ?_
        refine lv_iand G.1 G.2.1 d_Mo_nameIn_43 ?_
        refine lv_istore (lv' := [(5, .int ((x4h6 ^^^ ((x4h6.toUInt32 >>> ((13 : Int32).toUInt32 &&& Int32.toUInt32 31)).toInt32)) &&& 4095)), (0, .ref (ad a0)), (1, .ref (yP y_h6 a1 k1)), (2, .int x2h6), (3, .int x3h6), (4, .int x4h6)]) G.1 G.2.1 d_Mo_nameIn_44 hl (by decide) rfl (fun ls hl => ?_)
        refine W.eq (g2 := F0 m 46 ls []) rfl ?_
        refine lv_aload_n G.1 G.2.1 d_Mo_nameIn_46 rfl (lv_at hl 1 rfl) ?_
        refine ugf (v := .ref (yP y_h6 a0 3)) G hP h_a0 iMo rfl 3 (by decide) rfl q3067 rfl rfl d_Mo_nameIn_47 ?_
        refine lv_iload G.1 G.2.1 d_Mo_nameIn_50 (lv_at hl 0 rfl) ?_
        refine uiald G hP (kdp h_a0 rfl) (typ h_a0 rfl) h d_Mo_nameIn_52 (fun x_1 h => ?_)
        refine lv_istore (lv' := [(6, .int x_1), (5, .int ((x4h6 ^^^ ((x4h6.toUInt32 >>> ((13 : Int32).toUInt32 &&& Int32.toUInt32 31)).toInt32)) &&& 4095)), (0, .ref (ad a0)), (1, .ref (yP y_h6 a1 k1)), (2, .int x2h6), (3, .int x3h6), (4, .int x4h6)]) G.1 G.2.1 d_Mo_nameIn_53 hl (by decide) rfl (fun ls hl => ?_)
        unfold wla_Mo_nameIn_55 at h
        obtain ⟨I_55, μ_55, hI_55, hB_55⟩ := h
        have L_55 : ∀ (n_55 : Nat) (y_h55 : Ly) (s_h55 : St) (d_h55 e_h55 : Nat) (x2h55 : Int32) (x3h55 : Int32) (x5h55 : Int32) (x6h55 : Int32), μ_55 y_h55 s_h55 d_h55 e_h55 x2h55 x3h55 x5h55 x6h55 < n_55 → I_55 y_h55 s_h55 d_h55 e_h55 x2h55 x3h55 x5h55 x6h55 → ∀ (H : Heap) (locs : List Loc), va_P D CL (ws g ad y_h55 s_h55) H → va_D A (ws g ad y_h55 s_h55) → va_S A s.heap H locs → ∀ ls, lv_has ls 7 [(0, .ref (ad a0)), (1, .ref (yP y_h55 a1 k1)), (2, .int x2h55), (3, .int x3h55), (5, .int x5h55), (6, .int x6h55)] → W p l e (ra_Mo_nameIn mc ms) s m args below meth c H locs d_h55 e_h55 Q (F0 m 55 ls []) := by
          intro n_55
          induction n_55 with
          | zero => intro y_h55 s_h55 d_h55 e_h55 x2h55 x3h55 x5h55 x6h55 hμ; exact absurd hμ (Nat.not_lt_zero _)
          | succ n_55 ih_55 =>
            intro y_h55 s_h55 d_h55 e_h55 x2h55 x3h55 x5h55 x6h55 hμ_55 hJ H locs hP hD hS ls hl
            obtain ⟨K_55, hK_55, h⟩ : ∃ K : Ly → St → Nat → Nat → Int32 → Int32 → Int32 → Int32 → Prop, (∀ z1 z2 z3 z4 (t0 : Int32) (t1 : Int32) (t2 : Int32) (t3 : Int32), K z1 z2 z3 z4 t0 t1 t2 t3 → I_55 z1 z2 z3 z4 t0 t1 t2 t3 ∧ μ_55 z1 z2 z3 z4 t0 t1 t2 t3 < μ_55 y_h55 s_h55 d_h55 e_h55 x2h55 x3h55 x5h55 x6h55) ∧ wba_Mo_nameIn_55 mc ms Post K a0 a1 k1 y_h55 s_h55 d_h55 e_h55 x2h55 x3h55 x5h55 x6h55 := ⟨_, fun _ _ _ _ _ _ _ _ h => h, hB_55 y_h55 s_h55 d_h55 e_h55 x2h55 x3h55 x5h55 x6h55 hJ⟩
            unfold wba_Mo_nameIn_55 at h
            obtain ⟨hd, h⟩ := h
            refine lv_iload G.1 G.2.1 d_Mo_nameIn_55 (lv_at hl 5 rfl) ?_
            refine lv_if_le (tgt := 93) G.1 G.2.1 d_Mo_nameIn_57 (by decide) (fun c57 => ?_) (fun c57 => ?_)
            · skip
              have h := h.1 c57
              refine lv_aload_n G.1 G.2.1 d_Mo_nameIn_93 rfl (lv_at hl 0 rfl) ?_
              refine lv_aload_n G.1 G.2.1 d_Mo_nameIn_94 rfl (lv_at hl 0 rfl) ?_
              refine ugf (v := .ref (yP y_h55 a0 0)) G hP h_a0 iMo rfl 0 (by decide) rfl q3064 rfl rfl d_Mo_nameIn_95 ?_
              refine lv_bipush (v := 12) G.1 G.2.1 d_Mo_nameIn_98 (by decide) ?_
              refine lv_aload_n G.1 G.2.1 d_Mo_nameIn_100 rfl (lv_at hl 0 rfl) ?_
              refine ugf (v := .int (sV s_h55 a0 4)) G hP h_a0 iMo rfl 4 (by decide) rfl q3068 rfl rfl d_Mo_nameIn_101 ?_
              refine lv_iconst (v := 1) G.1 G.2.1 d_Mo_nameIn_104 (by decide) ?_
              refine lv_iadd G.1 G.2.1 d_Mo_nameIn_105 ?_
              refine lv_imul G.1 G.2.1 d_Mo_nameIn_106 ?_
              refine W.eq (g2 := F0 m 107 ls [.int (12 * ((sV s_h55 a0 4) + 1)), .ref (yP y_h55 a0 0), .ref (ad a0)]) rfl ?_
              refine uroom (C := RMo) (T := TMo) (N := 131) G hP hD hS (fun ws0 q1 q t n f sz he ht hn => c_Mo_roomy_k l D g ws0 q1 q t n f sz he ht hn) (fun ws0 q1 q t n f sz he hn ht hf => c_Mo_roomy_g l D g ws0 q1 q t n f sz he hn ht hf) w9_Mo_roomy q2591 ⟨Nat.le_of_ble_eq_true rfl, Nat.le_of_ble_eq_true rfl⟩ (Nat.le_refl _) (Nat.le_refl _) hd (by decide) h_a0 rfl rfl iMo tMo tMo_ok nMo rfl (by decide) q3064 rfl rfl (fun _ => rfl) (fun _ => rfl) hl.1 (Nat.le_of_ble_eq_true rfl) h d_Mo_nameIn_107 d_Mo_nameIn_110 (fun y_2 s_3 d_4 e_5 H locs h hP hD hS => ?_)
              have hl := lv_sub (l' := [(0, .ref (ad a0)), (1, .ref (yP y_h55 a1 k1)), (2, .int x2h55), (3, .int x3h55), (5, .int x5h55)]) hl [0, 1, 2, 3, 4] rfl
              obtain ⟨hd, h⟩ := h
              obtain ⟨n_6, h⟩ := h
              rw [n_6] at hl
              refine lv_aload_n G.1 G.2.1 d_Mo_nameIn_113 rfl (lv_at hl 0 rfl) ?_
              refine lv_aload_n G.1 G.2.1 d_Mo_nameIn_114 rfl (lv_at hl 0 rfl) ?_
              refine ugf (v := .ref (yP y_2 a0 1)) G hP h_a0 iMo rfl 1 (by decide) rfl q3065 rfl rfl d_Mo_nameIn_115 ?_
              refine lv_aload_n G.1 G.2.1 d_Mo_nameIn_118 rfl (lv_at hl 0 rfl) ?_
              refine ugf (v := .int (sV s_3 a0 4)) G hP h_a0 iMo rfl 4 (by decide) rfl q3068 rfl rfl d_Mo_nameIn_119 ?_
              refine lv_iconst (v := 1) G.1 G.2.1 d_Mo_nameIn_122 (by decide) ?_
              refine lv_iadd G.1 G.2.1 d_Mo_nameIn_123 ?_
              refine uroom (C := RMo) (T := TMo) (N := 131) G hP hD hS (fun ws0 q1 q t n f sz he ht hn => c_Mo_roomy_k l D g ws0 q1 q t n f sz he ht hn) (fun ws0 q1 q t n f sz he hn ht hf => c_Mo_roomy_g l D g ws0 q1 q t n f sz he hn ht hf) w9_Mo_roomy q2591 ⟨Nat.le_of_ble_eq_true rfl, Nat.le_of_ble_eq_true rfl⟩ (Nat.le_refl _) (Nat.le_refl _) hd (by decide) h_a0 rfl rfl iMo tMo tMo_ok nMo rfl (by decide) q3065 rfl rfl (fun _ => rfl) (fun _ => rfl) hl.1 (Nat.le_of_ble_eq_true rfl) h d_Mo_nameIn_124 d_Mo_nameIn_127 (fun y_7 s_8 d_9 e_10 H locs h hP hD hS => ?_)
              obtain ⟨hd, h⟩ := h
              obtain ⟨n_11, h⟩ := h
              rw [n_11] at hl
              refine lv_aload_n G.1 G.2.1 d_Mo_nameIn_130 rfl (lv_at hl 0 rfl) ?_
              refine lv_aload_n G.1 G.2.1 d_Mo_nameIn_131 rfl (lv_at hl 0 rfl) ?_
              refine ugf (v := .ref (yP y_7 a0 2)) G hP h_a0 iMo rfl 2 (by decide) rfl q3066 rfl rfl d_Mo_nameIn_132 ?_
              refine W.eq (g2 := F0 m 135 ls [.ref (yP y_7 a0 2), .ref (ad a0)]) rfl ?_
              refine lv_aload_n G.1 G.2.1 d_Mo_nameIn_135 rfl (lv_at hl 0 rfl) ?_
              refine ugf (v := .int (sV s_8 a0 4)) G hP h_a0 iMo rfl 4 (by decide) rfl q3068 rfl rfl d_Mo_nameIn_136 ?_
              refine lv_iconst (v := 1) G.1 G.2.1 d_Mo_nameIn_139 (by decide) ?_
              refine lv_iadd G.1 G.2.1 d_Mo_nameIn_140 ?_
              refine uroom (C := RMo) (T := TMo) (N := 131) G hP hD hS (fun ws0 q1 q t n f sz he ht hn => c_Mo_room_k l D g ws0 q1 q t n f sz he ht hn) (fun ws0 q1 q t n f sz he hn ht hf => c_Mo_room_g l D g ws0 q1 q t n f sz he hn ht hf) w9_Mo_room q2596 ⟨Nat.le_of_ble_eq_true rfl, Nat.le_of_ble_eq_true rfl⟩ (Nat.le_refl _) (Nat.le_refl _) hd (by decide) h_a0 rfl rfl iMo tMo tMo_ok nMo rfl (by decide) q3066 rfl rfl (fun _ => rfl) (fun _ => rfl) hl.1 (Nat.le_of_ble_eq_true rfl) h d_Mo_nameIn_141 d_Mo_nameIn_144 (fun y_12 s_13 d_14 e_15 H locs h hP hD hS => ?_)
              obtain ⟨hd, h⟩ := h
              obtain ⟨n_16, h⟩ := h
              rw [n_16] at hl
              refine lv_iconst (v := 0) G.1 G.2.1 d_Mo_nameIn_147 (by decide) ?_
              refine lv_istore (lv' := [(6, .int 0), (0, .ref (ad a0)), (1, .ref (yP y_12 a1 k1)), (2, .int x2h55), (3, .int x3h55), (5, .int x5h55)]) G.1 G.2.1 d_Mo_nameIn_148 hl (by decide) rfl (fun ls hl => ?_)
              unfold wla_Mo_nameIn_150 at h
              obtain ⟨I_150, μ_150, hI_150, hB_150⟩ := h
              have L_150 : ∀ (n_150 : Nat) (y_h150 : Ly) (s_h150 : St) (d_h150 e_h150 : Nat) (x2h150 : Int32) (x3h150 : Int32) (x5h150 : Int32) (x6h150 : Int32), μ_150 y_h150 s_h150 d_h150 e_h150 x2h150 x3h150 x5h150 x6h150 < n_150 → I_150 y_h150 s_h150 d_h150 e_h150 x2h150 x3h150 x5h150 x6h150 → ∀ (H : Heap) (locs : List Loc), va_P D CL (ws g ad y_h150 s_h150) H → va_D A (ws g ad y_h150 s_h150) → va_S A s.heap H locs → ∀ ls, lv_has ls 7 [(0, .ref (ad a0)), (1, .ref (yP y_h150 a1 k1)), (2, .int x2h150), (3, .int x3h150), (5, .int x5h150), (6, .int x6h150)] → W p l e (ra_Mo_nameIn mc ms) s m args below meth c H locs d_h150 e_h150 Q (F0 m 150 ls []) := by
                intro n_150
                induction n_150 with
                | zero => intro y_h150 s_h150 d_h150 e_h150 x2h150 x3h150 x5h150 x6h150 hμ; exact absurd hμ (Nat.not_lt_zero _)
                | succ n_150 ih_150 =>
                  intro y_h150 s_h150 d_h150 e_h150 x2h150 x3h150 x5h150 x6h150 hμ_150 hJ H locs hP hD hS ls hl
                  obtain ⟨K_150, hK_150, h⟩ : ∃ K : Ly → St → Nat → Nat → Int32 → Int32 → Int32 → Int32 → Prop, (∀ z1 z2 z3 z4 (t0 : Int32) (t1 : Int32) (t2 : Int32) (t3 : Int32), K z1 z2 z3 z4 t0 t1 t2 t3 → I_150 z1 z2 z3 z4 t0 t1 t2 t3 ∧ μ_150 z1 z2 z3 z4 t0 t1 t2 t3 < μ_150 y_h150 s_h150 d_h150 e_h150 x2h150 x3h150 x5h150 x6h150) ∧ wba_Mo_nameIn_150 mc ms Post K a0 a1 k1 y_h150 s_h150 d_h150 e_h150 x2h150 x3h150 x5h150 x6h150 := ⟨_, fun _ _ _ _ _ _ _ _ h => h, hB_150 y_h150 s_h150 d_h150 e_h150 x2h150 x3h150 x5h150 x6h150 hJ⟩
                  unfold wba_Mo_nameIn_150 at h
                  obtain ⟨hd, h⟩ := h
                  refine lv_iload G.1 G.2.1 d_Mo_nameIn_150 (lv_at hl 5 rfl) ?_
                  refine lv_iload_n G.1 G.2.1 d_Mo_nameIn_152 rfl (lv_at hl 3 rfl) ?_
                  refine lv_icmp_ge (tgt := 183) G.1 G.2.1 d_Mo_nameIn_153 (by decide) (fun c153 => ?_) (fun c153 => ?_)
                  · skip
                    have h := h.1 c153
                    refine lv_aload_n G.1 G.2.1 d_Mo_nameIn_183 rfl (lv_at hl 0 rfl) ?_
                    refine ugf (v := .ref (yP y_h150 a0 1)) G hP h_a0 iMo rfl 1 (by decide) rfl q3065 rfl rfl d_Mo_nameIn_184 ?_
                    refine lv_aload_n G.1 G.2.1 d_Mo_nameIn_187 rfl (lv_at hl 0 rfl) ?_
                    refine ugf (v := .int (sV s_h150 a0 4)) G hP h_a0 iMo rfl 4 (by decide) rfl q3068 rfl rfl d_Mo_nameIn_188 ?_
                    refine lv_iload_n G.1 G.2.1 d_Mo_nameIn_191 rfl (lv_at hl 3 rfl) ?_
                    refine lv_i2b G.1 G.2.1 d_Mo_nameIn_192 rfl ?_
                    refine ubast G hP hD hS (kdp h_a0 rfl) (typ h_a0 rfl) h d_Mo_nameIn_193 (fun s_17 H locs h hP hD hS => ?_)
                    refine lv_aload_n G.1 G.2.1 d_Mo_nameIn_194 rfl (lv_at hl 0 rfl) ?_
                    refine W.eq (g2 := F0 m 195 ls [.ref (ad a0)]) rfl ?_
                    refine ugf (v := .ref (yP y_h150 a0 2)) G hP h_a0 iMo rfl 2 (by decide) rfl q3066 rfl rfl d_Mo_nameIn_195 ?_
                    refine lv_aload_n G.1 G.2.1 d_Mo_nameIn_198 rfl (lv_at hl 0 rfl) ?_
                    refine ugf (v := .int (sV s_17 a0 4)) G hP h_a0 iMo rfl 4 (by decide) rfl q3068 rfl rfl d_Mo_nameIn_199 ?_
                    refine lv_aload_n G.1 G.2.1 d_Mo_nameIn_202 rfl (lv_at hl 0 rfl) ?_
                    refine ugf (v := .ref (yP y_h150 a0 3)) G hP h_a0 iMo rfl 3 (by decide) rfl q3067 rfl rfl d_Mo_nameIn_203 ?_
                    refine lv_iload G.1 G.2.1 d_Mo_nameIn_206 (lv_at hl 4 rfl) ?_
                    refine uiald G hP (kdp h_a0 rfl) (typ h_a0 rfl) h d_Mo_nameIn_208 (fun x_18 h => ?_)
                    refine uiast G hP hD hS (kdp h_a0 rfl) (typ h_a0 rfl) h d_Mo_nameIn_209 (fun s_19 H locs h hP hD hS => ?_)
                    refine lv_aload_n G.1 G.2.1 d_Mo_nameIn_210 rfl (lv_at hl 0 rfl) ?_
                    refine lv_dup G.1 G.2.1 d_Mo_nameIn_211 rfl ?_
                    refine ugf (v := .int (sV s_19 a0 4)) G hP h_a0 iMo rfl 4 (by decide) rfl q3068 rfl rfl d_Mo_nameIn_212 ?_
                    refine lv_iconst (v := 1) G.1 G.2.1 d_Mo_nameIn_215 (by decide) ?_
                    refine W.eq (g2 := F0 m 216 ls [.int 1, .int (sV s_19 a0 4), .ref (ad a0)]) rfl ?_
                    refine lv_iadd G.1 G.2.1 d_Mo_nameIn_216 ?_
                    refine upf G hP hD hS h 4 putV h_a0 iMo tMo tMo_ok nMo rfl (by decide) rfl q3068 rfl rfl fV rfl rfl d_Mo_nameIn_217 (fun s_20 H locs h hP hD hS => ?_)
                    refine lv_aload_n G.1 G.2.1 d_Mo_nameIn_220 rfl (lv_at hl 0 rfl) ?_
                    refine ugf (v := .ref (yP y_h150 a0 3)) G hP h_a0 iMo rfl 3 (by decide) rfl q3067 rfl rfl d_Mo_nameIn_221 ?_
                    refine lv_iload G.1 G.2.1 d_Mo_nameIn_224 (lv_at hl 4 rfl) ?_
                    refine lv_aload_n G.1 G.2.1 d_Mo_nameIn_226 rfl (lv_at hl 0 rfl) ?_
                    refine ugf (v := .int (sV s_20 a0 4)) G hP h_a0 iMo rfl 4 (by decide) rfl q3068 rfl rfl d_Mo_nameIn_227 ?_
                    refine uiast G hP hD hS (kdp h_a0 rfl) (typ h_a0 rfl) h d_Mo_nameIn_230 (fun s_21 H locs h hP hD hS => ?_)
                    refine lv_aload_n G.1 G.2.1 d_Mo_nameIn_231 rfl (lv_at hl 0 rfl) ?_
                    refine ugf (v := .int (sV s_21 a0 4)) G hP h_a0 iMo rfl 4 (by decide) rfl q3068 rfl rfl d_Mo_nameIn_232 ?_
                    refine lv_iconst (v := 1) G.1 G.2.1 d_Mo_nameIn_235 (by decide) ?_
                    refine lv_isub G.1 G.2.1 d_Mo_nameIn_236 ?_
                    refine W.eq (g2 := F0 m 237 ls [.int ((sV s_21 a0 4) - 1)]) rfl ?_
                    exact hret _ (y_h150, s_21, d_h150, e_h150) _ _ _ _ _ ls h hP hD hS (Nat.le_refl _) (Nat.le_refl _) hd.1 hd.2 d_Mo_nameIn_237
                  · skip
                    have h := h.2 c153
                    refine lv_aload_n G.1 G.2.1 d_Mo_nameIn_156 rfl (lv_at hl 0 rfl) ?_
                    refine ugf (v := .ref (yP y_h150 a0 0)) G hP h_a0 iMo rfl 0 (by decide) rfl q3064 rfl rfl d_Mo_nameIn_157 ?_
                    refine lv_bipush (v := 12) G.1 G.2.1 d_Mo_nameIn_160 (by decide) ?_
                    refine lv_aload_n G.1 G.2.1 d_Mo_nameIn_162 rfl (lv_at hl 0 rfl) ?_
                    refine ugf (v := .int (sV s_h150 a0 4)) G hP h_a0 iMo rfl 4 (by decide) rfl q3068 rfl rfl d_Mo_nameIn_163 ?_
                    refine lv_imul G.1 G.2.1 d_Mo_nameIn_166 ?_
                    refine lv_iload G.1 G.2.1 d_Mo_nameIn_167 (lv_at hl 5 rfl) ?_
                    refine lv_iadd G.1 G.2.1 d_Mo_nameIn_169 ?_
                    refine W.eq (g2 := F0 m 170 ls [.int ((12 * (sV s_h150 a0 4)) + x6h150), .ref (yP y_h150 a0 0)]) rfl ?_
                    refine lv_aload_n G.1 G.2.1 d_Mo_nameIn_170 rfl (lv_at hl 1 rfl) ?_
                    refine lv_iload_n G.1 G.2.1 d_Mo_nameIn_171 rfl (lv_at hl 2 rfl) ?_
                    refine lv_iload G.1 G.2.1 d_Mo_nameIn_172 (lv_at hl 5 rfl) ?_
                    refine lv_iadd G.1 G.2.1 d_Mo_nameIn_174 ?_
                    refine ubald G hP h_a1.1 h_a1.2 h d_Mo_nameIn_175 (fun x_22 h => ?_)
                    refine ubast G hP hD hS (kdp h_a0 rfl) (typ h_a0 rfl) h d_Mo_nameIn_176 (fun s_23 H locs h hP hD hS => ?_)
                    refine lv_iinc (v := x6h150 + 1) (lv' := [(6, .int (x6h150 + 1)), (0, .ref (ad a0)), (1, .ref (yP y_h150 a1 k1)), (2, .int x2h150), (3, .int x3h150), (5, .int x5h150)]) G.1 G.2.1 d_Mo_nameIn_177 hl (k := 5) rfl rfl (by decide) rfl (fun ls hl => ?_)
                    refine lv_goto (tgt := 150) G.1 G.2.1 d_Mo_nameIn_180 (by decide) ?_
                    have h := hK_150 y_h150 s_23 d_h150 e_h150 x2h150 x3h150 x5h150 (x6h150 + 1) h
                    exact ih_150 y_h150 s_23 d_h150 e_h150 x2h150 x3h150 x5h150 (x6h150 + 1) (Nat.lt_of_lt_of_le h.2 (Nat.le_of_lt_succ hμ_150)) h.1 H locs hP hD hS ls (lv_sub hl [1, 2, 3, 4, 5, 0] rfl)
              exact L_150 _ y_12 s_13 d_14 e_15 x2h55 x3h55 x5h55 0 (Nat.lt_succ_self _) hI_150 H locs hP hD hS ls (lv_sub hl [1, 2, 3, 4, 5, 0] rfl)
            · skip
              have h := h.2 c57
              refine lv_aload_n G.1 G.2.1 d_Mo_nameIn_60 rfl (lv_at hl 0 rfl) ?_
              refine lv_iload G.1 G.2.1 d_Mo_nameIn_61 (lv_at hl 5 rfl) ?_
              refine lv_iconst (v := 1) G.1 G.2.1 d_Mo_nameIn_63 (by decide) ?_
              refine lv_isub G.1 G.2.1 d_Mo_nameIn_64 ?_
              refine lv_aload_n G.1 G.2.1 d_Mo_nameIn_65 rfl (lv_at hl 1 rfl) ?_
              refine lv_iload_n G.1 G.2.1 d_Mo_nameIn_66 rfl (lv_at hl 2 rfl) ?_
              refine lv_iload_n G.1 G.2.1 d_Mo_nameIn_67 rfl (lv_at hl 3 rfl) ?_
              refine ucVi (As := [.int (x6h55 - 1), .ref (yP y_h55 a1 k1), .int x2h55, .int x3h55]) (rest := []) G hP hD hS (cu_Mo_isName l D g ad y_h55 _ s_h55 a0 (x6h55 - 1) a1 k1 x2h55 x3h55 H.size h_a0 ⟨h_a1.1, h_a1.2⟩ h) w9_Mo_isName q2587 ⟨Nat.le_of_ble_eq_true rfl, Nat.le_of_ble_eq_true rfl⟩ rfl rfl h_a0 (q := (RMo, TMo, 131)) rfl rfl hl.1 rfl (Nat.le_of_ble_eq_true rfl) rfl hd d_Mo_nameIn_68 (fun r_24 s_25 H locs h hP hD hS => ?_)
              refine lv_if_eq (tgt := 79) G.1 G.2.1 d_Mo_nameIn_71 (by decide) (fun c71 => ?_) (fun c71 => ?_)
              · skip
                have h := h.1 c71
                refine W.eq (g2 := F0 m 79 ls []) rfl ?_
                refine lv_aload_n G.1 G.2.1 d_Mo_nameIn_79 rfl (lv_at hl 0 rfl) ?_
                refine ugf (v := .ref (yP y_h55 a0 2)) G hP h_a0 iMo rfl 2 (by decide) rfl q3066 rfl rfl d_Mo_nameIn_80 ?_
                refine lv_iload G.1 G.2.1 d_Mo_nameIn_83 (lv_at hl 5 rfl) ?_
                refine lv_iconst (v := 1) G.1 G.2.1 d_Mo_nameIn_85 (by decide) ?_
                refine lv_isub G.1 G.2.1 d_Mo_nameIn_86 ?_
                refine uiald G hP (kdp h_a0 rfl) (typ h_a0 rfl) h d_Mo_nameIn_87 (fun x_26 h => ?_)
                refine lv_istore (lv' := [(6, .int x_26), (0, .ref (ad a0)), (1, .ref (yP y_h55 a1 k1)), (2, .int x2h55), (3, .int x3h55), (5, .int x5h55)]) G.1 G.2.1 d_Mo_nameIn_88 hl (by decide) rfl (fun ls hl => ?_)
                refine lv_goto (tgt := 55) G.1 G.2.1 d_Mo_nameIn_90 (by decide) ?_
                have h := hK_55 y_h55 s_25 d_h55 e_h55 x2h55 x3h55 x5h55 x_26 h
                exact ih_55 y_h55 s_25 d_h55 e_h55 x2h55 x3h55 x5h55 x_26 (Nat.lt_of_lt_of_le h.2 (Nat.le_of_lt_succ hμ_55)) h.1 H locs hP hD hS ls (lv_sub hl [1, 2, 3, 4, 5, 0] rfl)
              · skip
                have h := h.2 c71
                refine W.eq (g2 := F0 m 74 ls []) rfl ?_
                refine lv_iload G.1 G.2.1 d_Mo_nameIn_74 (lv_at hl 5 rfl) ?_
                refine lv_iconst (v := 1) G.1 G.2.1 d_Mo_nameIn_76 (by decide) ?_
                refine lv_isub G.1 G.2.1 d_Mo_nameIn_77 ?_
                exact hret _ (y_h55, s_25, d_h55, e_h55) _ _ _ _ _ ls h hP hD hS (Nat.le_refl _) (Nat.le_refl _) hd.1 hd.2 d_Mo_nameIn_78
        exact L_55 _ y_h6 s_h6 d_h6 e_h6 x2h6 x3h6 ((x4h6 ^^^ ((x4h6.toUInt32 >>> ((13 : Int32).toUInt32 &&& Int32.toUInt32 31)).toInt32)) &&& 4095) x_1 (Nat.lt_succ_self _) hI_55 H locs hP hD hS ls (lv_sub hl [2, 3, 4, 5, 1, 0] rfl)
      · skip
        have h := h.2 c9
        refine lv_bipush (v := 31) G.1 G.2.1 d_Mo_nameIn_12 (by decide) ?_
        refine lv_iload G.1 G.2.1 d_Mo_nameIn_14 (lv_at hl 4 rfl) ?_
        refine lv_imul G.1 G.2.1 d_Mo_nameIn_16 ?_
        refine lv_aload_n G.1 G.2.1 d_Mo_nameIn_17 rfl (lv_at hl 1 rfl) ?_
        refine lv_iload_n G.1 G.2.1 d_Mo_nameIn_18 rfl (lv_at hl 2 rfl) ?_
        refine lv_iload G.1 G.2.1 d_Mo_nameIn_19 (lv_at hl 5 rfl) ?_
        refine lv_iadd G.1 G.2.1 d_Mo_nameIn_21 ?_
        refine ubald G hP h_a1.1 h_a1.2 h d_Mo_nameIn_22 (fun x_27 h => ?_)
        refine W.eq (g2 := F0 m 23 ls [.int x_27, .int (31 * x4h6)]) rfl ?_
        refine lv_iadd G.1 G.2.1 d_Mo_nameIn_23 ?_
        refine lv_istore (lv' := [(4, .int ((31 * x4h6) + x_27)), (0, .ref (ad a0)), (1, .ref (yP y_h6 a1 k1)), (2, .int x2h6), (3, .int x3h6), (5, .int x5h6)]) G.1 G.2.1 d_Mo_nameIn_24 hl (by decide) rfl (fun ls hl => ?_)
        refine lv_iinc (v := x5h6 + 1) (lv' := [(5, .int (x5h6 + 1)), (4, .int ((31 * x4h6) + x_27)), (0, .ref (ad a0)), (1, .ref (yP y_h6 a1 k1)), (2, .int x2h6), (3, .int x3h6)]) G.1 G.2.1 d_Mo_nameIn_26 hl (k := 5) rfl rfl (by decide) rfl (fun ls hl => ?_)
        refine lv_goto (tgt := 6) G.1 G.2.1 d_Mo_nameIn_29 (by decide) ?_
        have h := hK_6 y_h6 s_h6 d_h6 e_h6 x2h6 x3h6 ((31 * x4h6) + x_27) (x5h6 + 1) h
        exact ih_6 y_h6 s_h6 d_h6 e_h6 x2h6 x3h6 ((31 * x4h6) + x_27) (x5h6 + 1) (Nat.lt_of_lt_of_le h.2 (Nat.le_of_lt_succ hμ_6)) h.1 H locs hP hD hS ls (lv_sub hl [2, 3, 4, 5, 1, 0] rfl)
  exact L_6 _ y σ 0 0 v2 v3 v3 0 (Nat.lt_succ_self _) hI_6 H locs hP hD hS ls (lv_sub hl [2, 3, 4, 5, 1, 0] rfl)
theorem q2581 : Cond.methodLink "ClassWorksModel" 47 y_Js_length ∈ lw_ok := lw_okmem (List.mem_of_getElem? (i := 2581) (by decide +kernel)) rfl
theorem q3069 : Cond.fieldLink "ClassWorksModel" 53 "ClassWorksModel" "keyRow" "[B" ∈ lw_ok := lw_okmem (List.mem_of_getElem? (i := 3069) (by decide +kernel)) rfl
theorem q2583 : Cond.methodLink "ClassWorksModel" 60 y_Mo_nameIn ∈ lw_ok := lw_okmem (List.mem_of_getElem? (i := 2583) (by decide +kernel)) rfl
theorem q2586 : Cond.code y_Mo_nameIn b_Mo_nameIn 7 (some .int) ∈ lw_ok := lw_okmem (List.mem_of_getElem? (i := 2586) (by decide +kernel)) rfl
theorem q2585 : Cond.instanceMethod y_Mo_nameIn ∈ lw_ok := lw_okmem (List.mem_of_getElem? (i := 2585) (by decide +kernel)) rfl
theorem q169 : Cond.selects y_Mo_nameIn.cls y_Mo_nameIn y_Mo_nameIn ∈ lw_ok := lw_okmem (List.mem_of_getElem? (i := 169) (by decide +kernel)) rfl
theorem w9_Mo_nameIn : CWv y_Mo_nameIn b_Mo_nameIn 7 (some .int) 3 ∧ Cond.instanceMethod y_Mo_nameIn ∈ lw_ok ∧ Cond.selects y_Mo_nameIn.cls y_Mo_nameIn y_Mo_nameIn ∈ lw_ok := ⟨⟨q2586, q348, by decide +kernel, by decide +kernel, by decide +kernel⟩, q2585, q169⟩
def y_Mo_key : MethodName := ⟨"ClassWorksModel", "key", "(Ljava/lang/String;)I"⟩
abbrev b_Mo_key : ByteArray := prog_14_method_5_code
theorem q2582 : Cond.methodLink "ClassWorksModel" 56 y_Js_charAt ∈ lw_ok := lw_okmem (List.mem_of_getElem? (i := 2582) (by decide +kernel)) rfl
theorem d_Mo_key_0 : decode b_Mo_key 0 = .ok (.iconst 0, 1) := by decide +kernel
theorem d_Mo_key_1 : decode b_Mo_key 1 = .ok (.istore_n 2, 1) := by decide +kernel
theorem d_Mo_key_2 : decode b_Mo_key 2 = .ok (.iload_n 2, 1) := by decide +kernel
theorem d_Mo_key_3 : decode b_Mo_key 3 = .ok (.aload_n 1, 1) := by decide +kernel
theorem d_Mo_key_4 : decode b_Mo_key 4 = .ok (.invokevirtual 47, 3) := by decide +kernel
theorem d_Mo_key_7 : decode b_Mo_key 7 = .ok (.if_icmp .ge 21, 3) := by decide +kernel
theorem d_Mo_key_10 : decode b_Mo_key 10 = .ok (.aload_n 0, 1) := by decide +kernel
theorem d_Mo_key_11 : decode b_Mo_key 11 = .ok (.getfield 53, 3) := by decide +kernel
theorem d_Mo_key_14 : decode b_Mo_key 14 = .ok (.iload_n 2, 1) := by decide +kernel
theorem d_Mo_key_15 : decode b_Mo_key 15 = .ok (.aload_n 1, 1) := by decide +kernel
theorem d_Mo_key_16 : decode b_Mo_key 16 = .ok (.iload_n 2, 1) := by decide +kernel
theorem d_Mo_key_17 : decode b_Mo_key 17 = .ok (.invokevirtual 56, 3) := by decide +kernel
theorem d_Mo_key_20 : decode b_Mo_key 20 = .ok (.i2b, 1) := by decide +kernel
theorem d_Mo_key_21 : decode b_Mo_key 21 = .ok (.bastore, 1) := by decide +kernel
theorem d_Mo_key_22 : decode b_Mo_key 22 = .ok (.iinc 2 1, 3) := by decide +kernel
theorem d_Mo_key_25 : decode b_Mo_key 25 = .ok (.goto (-23), 3) := by decide +kernel
theorem d_Mo_key_28 : decode b_Mo_key 28 = .ok (.aload_n 0, 1) := by decide +kernel
theorem d_Mo_key_29 : decode b_Mo_key 29 = .ok (.aload_n 0, 1) := by decide +kernel
theorem d_Mo_key_30 : decode b_Mo_key 30 = .ok (.getfield 53, 3) := by decide +kernel
theorem d_Mo_key_33 : decode b_Mo_key 33 = .ok (.iconst 0, 1) := by decide +kernel
theorem d_Mo_key_34 : decode b_Mo_key 34 = .ok (.aload_n 1, 1) := by decide +kernel
theorem d_Mo_key_35 : decode b_Mo_key 35 = .ok (.invokevirtual 47, 3) := by decide +kernel
theorem d_Mo_key_38 : decode b_Mo_key 38 = .ok (.invokevirtual 60, 3) := by decide +kernel
theorem d_Mo_key_41 : decode b_Mo_key 41 = .ok (.ireturn, 1) := by decide +kernel
abbrev ra_Mo_key (mc ms : Nat) : Room := { frames := 4, cells := mc, slots := ms, locals := 176 }
def wba_Mo_key_2 (mc ms : Nat) (Post : Ly → St → Int32 → Nat → Nat → Prop) (K_2 : Ly → St → Nat → Nat → Int32 → Prop) (a0 : Nat) (n1 : Nat) (y_h2 : Ly) (s_h2 : St) (d_h2 e_h2 : Nat) (x2h2 : Int32) : Prop := (d_h2 ≤ mc ∧ e_h2 ≤ ms) ∧ (((nI (stb n1).length) ≤ x2h2 → ∃ mc_6 ms_7 : Nat, (d_h2 + mc_6 ≤ mc ∧ e_h2 + ms_7 ≤ ms) ∧ wa_Mo_nameIn mc_6 ms_7 y_h2 (fun (y_3 : Ly) (s_2 : St) (r_1 : Int32) (d_4 e_5 : Nat) => (d_h2 + d_4 ≤ mc ∧ e_h2 + e_5 ≤ ms) ∧ Post y_3 s_2 r_1 (d_h2 + d_4) (e_h2 + e_5)) s_h2 a0 a0 5 0 (nI (stb n1).length)) ∧ (¬ ((nI (stb n1).length) ≤ x2h2) → xH n1 x2h2 (fun x_9 : Int32 => xS y_h2 s_h2 a0 5 x2h2 (vp_nar .byte x_9.toInt8.toInt32) (fun s_10 : St => K_2 y_h2 s_10 d_h2 e_h2 (x2h2 + 1)))))
def wla_Mo_key_2 (mc ms : Nat) (Post : Ly → St → Int32 → Nat → Nat → Prop) (a0 : Nat) (n1 : Nat) (y_h2 : Ly) (s_h2 : St) (d_h2 e_h2 : Nat) (x2h2 : Int32) : Prop := ∃ (I : Ly → St → Nat → Nat → Int32 → Prop) (μ : Ly → St → Nat → Nat → Int32 → Nat), I y_h2 s_h2 d_h2 e_h2 x2h2 ∧ ∀ (u1 : Ly) (u2 : St) (u3 u4 : Nat) (t0 : Int32), I u1 u2 u3 u4 t0 → wba_Mo_key_2 mc ms Post (fun z1 z2 z3 z4 t0q => I z1 z2 z3 z4 t0q ∧ μ z1 z2 z3 z4 t0q < μ u1 u2 u3 u4 t0) a0 n1 u1 u2 u3 u4 t0
def wa_Mo_key (mc ms : Nat) (y : Ly) (Post : Ly → St → Int32 → Nat → Nat → Prop) (σ : St) (a0 : Nat) (n1 : Nat) : Prop := wla_Mo_key_2 mc ms Post a0 n1 y σ 0 0 0
set_option maxHeartbeats 4000000 in
set_option maxRecDepth 100000 in
theorem ca_Mo_key (l : Launch) (D : va_G) (g : Nat → ClassId) (F : Nat → SL) (sl : List SL) (hF : SOK F sl) (ad : Nat → Nat) (mc ms : Nat) (y : Ly) (Post : Ly → St → Int32 → Nat → Nat → Prop) (σ : St) (a0 : Nat) (n1 : Nat) (sz uz : Nat) (h_a0 : cl a0 = 14) (h_n1 : n1 < strT.length) (h : wa_Mo_key mc ms y Post σ a0 n1) : Met l y_Mo_key (mw y_Mo_key b_Mo_key 3 (some .int)) (ra_Mo_key mc ms) (PCu g D sl [.ref (ad a0), .ref (sk (F n1))] sz uz (ws g ad y σ)) (va_Qi (fun (r : Int32) (u : Ly × St × Nat × Nat) => Post u.1 u.2.1 r u.2.2.1 u.2.2.2) (QU D (va_A (ws g ad y σ) sz) (fun u => ws g ad u.1 u.2.1) sz uz (fun u => u.2.2.1) (fun u => u.2.2.2)) (va_A (ws g ad y σ) sz)) mc ms (va_A (ws g ad y σ) sz) := by
  refine ofIu (by decide +kernel) (Nat.le_of_ble_eq_true rfl) ?_
  intro p e s m args below meth c A Q ls H locs G hsz hP hD hS hl hret
  subst hsz
  have hl : lv_has ls 3 [(0, .ref (ad a0)), (1, .ref (sk (F n1)))] := hl
  have hd : 0 ≤ mc ∧ 0 ≤ ms := ⟨Nat.zero_le _, Nat.zero_le _⟩
  unfold wa_Mo_key at h
  refine lv_iconst (v := 0) G.1 G.2.1 d_Mo_key_0 (by decide) ?_
  refine lv_istore_n (lv' := [(2, .int 0), (0, .ref (ad a0)), (1, .ref (sk (F n1)))]) G.1 G.2.1 d_Mo_key_1 rfl hl (by decide) rfl (fun ls hl => ?_)
  unfold wla_Mo_key_2 at h
  obtain ⟨I_2, μ_2, hI_2, hB_2⟩ := h
  have L_2 : ∀ (n_2 : Nat) (y_h2 : Ly) (s_h2 : St) (d_h2 e_h2 : Nat) (x2h2 : Int32), μ_2 y_h2 s_h2 d_h2 e_h2 x2h2 < n_2 → I_2 y_h2 s_h2 d_h2 e_h2 x2h2 → ∀ (H : Heap) (locs : List Loc), va_P D CL (ws g ad y_h2 s_h2) H → va_D A (ws g ad y_h2 s_h2) → va_S A s.heap H locs → ∀ ls, lv_has ls 3 [(0, .ref (ad a0)), (1, .ref (sk (F n1))), (2, .int x2h2)] → W p l e (ra_Mo_key mc ms) s m args below meth c H locs d_h2 e_h2 Q (F0 m 2 ls []) := by
    intro n_2
    induction n_2 with
    | zero => intro y_h2 s_h2 d_h2 e_h2 x2h2 hμ; exact absurd hμ (Nat.not_lt_zero _)
    | succ n_2 ih_2 =>
      intro y_h2 s_h2 d_h2 e_h2 x2h2 hμ_2 hJ H locs hP hD hS ls hl
      obtain ⟨K_2, hK_2, h⟩ : ∃ K : Ly → St → Nat → Nat → Int32 → Prop, (∀ z1 z2 z3 z4 (t0 : Int32), K z1 z2 z3 z4 t0 → I_2 z1 z2 z3 z4 t0 ∧ μ_2 z1 z2 z3 z4 t0 < μ_2 y_h2 s_h2 d_h2 e_h2 x2h2) ∧ wba_Mo_key_2 mc ms Post K a0 n1 y_h2 s_h2 d_h2 e_h2 x2h2 := ⟨_, fun _ _ _ _ _ h => h, hB_2 y_h2 s_h2 d_h2 e_h2 x2h2 hJ⟩
      unfold wba_Mo_key_2 at h
      obtain ⟨hd, h⟩ := h
      refine lv_iload_n G.1 G.2.1 d_Mo_key_2 rfl (lv_at hl 2 rfl) ?_
      refine lv_aload_n G.1 G.2.1 d_Mo_key_3 rfl (lv_at hl 1 rfl) ?_
      refine ulen hF h_n1 G hP hD hS w9_Js_length q2581 ⟨Nat.le_of_ble_eq_true rfl, Nat.le_of_ble_eq_true rfl⟩ hl.1 (Nat.le_of_ble_eq_true rfl) hd d_Mo_key_4 (fun H locs hP hD hS => ?_)
      refine lv_icmp_ge (tgt := 28) G.1 G.2.1 d_Mo_key_7 (by decide) (fun c7 => ?_) (fun c7 => ?_)
      · skip
        have h := h.1 c7
        refine lv_aload_n G.1 G.2.1 d_Mo_key_28 rfl (lv_at hl 0 rfl) ?_
        refine lv_aload_n G.1 G.2.1 d_Mo_key_29 rfl (lv_at hl 0 rfl) ?_
        refine ugf (v := .ref (yP y_h2 a0 5)) G hP h_a0 iMo rfl 5 (by decide) rfl q3069 rfl rfl d_Mo_key_30 ?_
        refine lv_iconst (v := 0) G.1 G.2.1 d_Mo_key_33 (by decide) ?_
        refine lv_aload_n G.1 G.2.1 d_Mo_key_34 rfl (lv_at hl 1 rfl) ?_
        refine ulen hF h_n1 G hP hD hS w9_Js_length q2581 ⟨Nat.le_of_ble_eq_true rfl, Nat.le_of_ble_eq_true rfl⟩ hl.1 (Nat.le_of_ble_eq_true rfl) hd d_Mo_key_35 (fun H locs hP hD hS => ?_)
        obtain ⟨mc_6, ms_7, hr_8, h⟩ := h
        refine uaVi (As := [.ref (yP y_h2 a0 5), .int 0, .int (nI (stb n1).length)]) (rest := []) G hP hD hS (ca_Mo_nameIn l D g ad mc_6 ms_7 y_h2 _ s_h2 a0 a0 5 0 (nI (stb n1).length) H.size (us H) h_a0 ⟨(kdp h_a0 rfl), (typ h_a0 rfl)⟩ h) w9_Mo_nameIn q2583 ⟨Nat.le_of_ble_eq_true rfl, Nat.le_of_ble_eq_true rfl⟩ rfl rfl h_a0 (q := (RMo, TMo, 131)) rfl rfl hl.1 rfl (Nat.le_of_ble_eq_true rfl) rfl hr_8 d_Mo_key_38 (fun r_1 y_3 s_2 d_4 e_5 H locs h hP hD hS => ?_)
        have hl := lv_sub (l' := []) hl [] rfl
        obtain ⟨hd, h⟩ := h
        refine W.eq (g2 := F0 m 41 ls [.int r_1]) rfl ?_
        exact hret _ (y_3, s_2, d_h2 + d_4, e_h2 + e_5) _ _ _ _ _ ls h hP hD hS (Nat.le_refl _) (Nat.le_refl _) hd.1 hd.2 d_Mo_key_41
      · skip
        have h := h.2 c7
        refine lv_aload_n G.1 G.2.1 d_Mo_key_10 rfl (lv_at hl 0 rfl) ?_
        refine ugf (v := .ref (yP y_h2 a0 5)) G hP h_a0 iMo rfl 5 (by decide) rfl q3069 rfl rfl d_Mo_key_11 ?_
        refine lv_iload_n G.1 G.2.1 d_Mo_key_14 rfl (lv_at hl 2 rfl) ?_
        refine lv_aload_n G.1 G.2.1 d_Mo_key_15 rfl (lv_at hl 1 rfl) ?_
        refine lv_iload_n G.1 G.2.1 d_Mo_key_16 rfl (lv_at hl 2 rfl) ?_
        refine uchar hF h_n1 G hP hD hS h w9_Js_charAt q2582 ⟨Nat.le_of_ble_eq_true rfl, Nat.le_of_ble_eq_true rfl⟩ hl.1 (Nat.le_of_ble_eq_true rfl) hd d_Mo_key_17 (fun x_9 H locs h hP hD hS => ?_)
        refine lv_i2b G.1 G.2.1 d_Mo_key_20 rfl ?_
        refine W.eq (g2 := F0 m 21 ls [.int x_9.toInt8.toInt32, .int x2h2, .ref (yP y_h2 a0 5)]) rfl ?_
        refine ubast G hP hD hS (kdp h_a0 rfl) (typ h_a0 rfl) h d_Mo_key_21 (fun s_10 H locs h hP hD hS => ?_)
        refine lv_iinc (v := x2h2 + 1) (lv' := [(2, .int (x2h2 + 1)), (0, .ref (ad a0)), (1, .ref (sk (F n1)))]) G.1 G.2.1 d_Mo_key_22 hl (k := 2) rfl rfl (by decide) rfl (fun ls hl => ?_)
        refine lv_goto (tgt := 2) G.1 G.2.1 d_Mo_key_25 (by decide) ?_
        have h := hK_2 y_h2 s_10 d_h2 e_h2 (x2h2 + 1) h
        exact ih_2 y_h2 s_10 d_h2 e_h2 (x2h2 + 1) (Nat.lt_of_lt_of_le h.2 (Nat.le_of_lt_succ hμ_2)) h.1 H locs hP hD hS ls (lv_sub hl [1, 2, 0] rfl)
  exact L_2 _ y σ 0 0 0 (Nat.lt_succ_self _) hI_2 H locs hP hD hS ls (lv_sub hl [1, 2, 0] rfl)
def y_Mo_keys : MethodName := ⟨"ClassWorksModel", "keys", "(Ljava/lang/String;)I"⟩
abbrev b_Mo_keys : ByteArray := prog_14_method_6_code
theorem d_Mo_keys_0 : decode b_Mo_keys 0 = .ok (.iconst (-1), 1) := by decide +kernel
theorem d_Mo_keys_1 : decode b_Mo_keys 1 = .ok (.istore_n 2, 1) := by decide +kernel
theorem d_Mo_keys_2 : decode b_Mo_keys 2 = .ok (.iconst 0, 1) := by decide +kernel
theorem d_Mo_keys_3 : decode b_Mo_keys 3 = .ok (.istore_n 3, 1) := by decide +kernel
theorem d_Mo_keys_4 : decode b_Mo_keys 4 = .ok (.iconst 0, 1) := by decide +kernel
theorem d_Mo_keys_5 : decode b_Mo_keys 5 = .ok (.istore 4, 2) := by decide +kernel
theorem d_Mo_keys_7 : decode b_Mo_keys 7 = .ok (.iload 4, 2) := by decide +kernel
theorem d_Mo_keys_9 : decode b_Mo_keys 9 = .ok (.aload_n 1, 1) := by decide +kernel
theorem d_Mo_keys_10 : decode b_Mo_keys 10 = .ok (.invokevirtual 47, 3) := by decide +kernel
theorem d_Mo_keys_13 : decode b_Mo_keys 13 = .ok (.if_icmp .ge 64, 3) := by decide +kernel
theorem d_Mo_keys_16 : decode b_Mo_keys 16 = .ok (.aload_n 1, 1) := by decide +kernel
theorem d_Mo_keys_17 : decode b_Mo_keys 17 = .ok (.iload 4, 2) := by decide +kernel
theorem d_Mo_keys_19 : decode b_Mo_keys 19 = .ok (.invokevirtual 56, 3) := by decide +kernel
theorem d_Mo_keys_22 : decode b_Mo_keys 22 = .ok (.istore 5, 2) := by decide +kernel
theorem d_Mo_keys_24 : decode b_Mo_keys 24 = .ok (.iload 5, 2) := by decide +kernel
theorem d_Mo_keys_26 : decode b_Mo_keys 26 = .ok (.bipush 32, 2) := by decide +kernel
theorem d_Mo_keys_28 : decode b_Mo_keys 28 = .ok (.if_icmp .eq 18, 3) := by decide +kernel
theorem d_Mo_keys_31 : decode b_Mo_keys 31 = .ok (.aload_n 0, 1) := by decide +kernel
theorem d_Mo_keys_32 : decode b_Mo_keys 32 = .ok (.getfield 53, 3) := by decide +kernel
theorem d_Mo_keys_35 : decode b_Mo_keys 35 = .ok (.iload_n 3, 1) := by decide +kernel
theorem d_Mo_keys_36 : decode b_Mo_keys 36 = .ok (.iload 5, 2) := by decide +kernel
theorem d_Mo_keys_38 : decode b_Mo_keys 38 = .ok (.i2b, 1) := by decide +kernel
theorem d_Mo_keys_39 : decode b_Mo_keys 39 = .ok (.bastore, 1) := by decide +kernel
theorem d_Mo_keys_40 : decode b_Mo_keys 40 = .ok (.iinc 3 1, 3) := by decide +kernel
theorem d_Mo_keys_43 : decode b_Mo_keys 43 = .ok (.goto 28, 3) := by decide +kernel
theorem d_Mo_keys_46 : decode b_Mo_keys 46 = .ok (.aload_n 0, 1) := by decide +kernel
theorem d_Mo_keys_47 : decode b_Mo_keys 47 = .ok (.aload_n 0, 1) := by decide +kernel
theorem d_Mo_keys_48 : decode b_Mo_keys 48 = .ok (.getfield 53, 3) := by decide +kernel
theorem d_Mo_keys_51 : decode b_Mo_keys 51 = .ok (.iconst 0, 1) := by decide +kernel
theorem d_Mo_keys_52 : decode b_Mo_keys 52 = .ok (.iload_n 3, 1) := by decide +kernel
theorem d_Mo_keys_53 : decode b_Mo_keys 53 = .ok (.invokevirtual 60, 3) := by decide +kernel
theorem d_Mo_keys_56 : decode b_Mo_keys 56 = .ok (.istore 6, 2) := by decide +kernel
theorem d_Mo_keys_58 : decode b_Mo_keys 58 = .ok (.iload_n 2, 1) := by decide +kernel
theorem d_Mo_keys_59 : decode b_Mo_keys 59 = .ok (.ifCond .ge 8, 3) := by decide +kernel
theorem d_Mo_keys_62 : decode b_Mo_keys 62 = .ok (.iload 6, 2) := by decide +kernel
theorem d_Mo_keys_64 : decode b_Mo_keys 64 = .ok (.goto 4, 3) := by decide +kernel
theorem d_Mo_keys_67 : decode b_Mo_keys 67 = .ok (.iload_n 2, 1) := by decide +kernel
theorem d_Mo_keys_68 : decode b_Mo_keys 68 = .ok (.istore_n 2, 1) := by decide +kernel
theorem d_Mo_keys_69 : decode b_Mo_keys 69 = .ok (.iconst 0, 1) := by decide +kernel
theorem d_Mo_keys_70 : decode b_Mo_keys 70 = .ok (.istore_n 3, 1) := by decide +kernel
theorem d_Mo_keys_71 : decode b_Mo_keys 71 = .ok (.iinc 4 1, 3) := by decide +kernel
theorem d_Mo_keys_74 : decode b_Mo_keys 74 = .ok (.goto (-67), 3) := by decide +kernel
theorem d_Mo_keys_77 : decode b_Mo_keys 77 = .ok (.iload_n 2, 1) := by decide +kernel
theorem d_Mo_keys_78 : decode b_Mo_keys 78 = .ok (.ireturn, 1) := by decide +kernel
abbrev ra_Mo_keys (mc ms : Nat) : Room := { frames := 4, cells := mc, slots := ms, locals := 176 }
def wja_Mo_keys_71 (mc ms : Nat) (Post : Ly → St → Int32 → Nat → Nat → Prop) (K_7 : Ly → St → Nat → Nat → Int32 → Int32 → Int32 → Prop) (a0 : Nat) (n1 : Nat) (y_j71 : Ly) (s_j71 : St) (d_j71 e_j71 : Nat) (x2j71 : Int32) (x3j71 : Int32) (x4j71 : Int32) : Prop := (d_j71 ≤ mc ∧ e_j71 ≤ ms) ∧ K_7 y_j71 s_j71 d_j71 e_j71 x2j71 x3j71 (x4j71 + 1)
def wja_Mo_keys_68 (mc ms : Nat) (Post : Ly → St → Int32 → Nat → Nat → Prop) (K_7 : Ly → St → Nat → Nat → Int32 → Int32 → Int32 → Prop) (a0 : Nat) (n1 : Nat) (y_j68 : Ly) (s_j68 : St) (d_j68 e_j68 : Nat) (x4j68 : Int32) (z0j68 : Int32) : Prop := (d_j68 ≤ mc ∧ e_j68 ≤ ms) ∧ wja_Mo_keys_71 mc ms Post K_7 a0 n1 y_j68 s_j68 d_j68 e_j68 z0j68 0 x4j68
def wba_Mo_keys_7 (mc ms : Nat) (Post : Ly → St → Int32 → Nat → Nat → Prop) (K_7 : Ly → St → Nat → Nat → Int32 → Int32 → Int32 → Prop) (a0 : Nat) (n1 : Nat) (y_h7 : Ly) (s_h7 : St) (d_h7 e_h7 : Nat) (x2h7 : Int32) (x3h7 : Int32) (x4h7 : Int32) : Prop := (d_h7 ≤ mc ∧ e_h7 ≤ ms) ∧ (((nI (stb n1).length) ≤ x4h7 → Post y_h7 s_h7 x2h7 d_h7 e_h7) ∧ (¬ ((nI (stb n1).length) ≤ x4h7) → xH n1 x4h7 (fun x_1 : Int32 => ((x_1 = 32 → ∃ mc_7 ms_8 : Nat, (d_h7 + mc_7 ≤ mc ∧ e_h7 + ms_8 ≤ ms) ∧ wa_Mo_nameIn mc_7 ms_8 y_h7 (fun (y_4 : Ly) (s_3 : St) (r_2 : Int32) (d_5 e_6 : Nat) => (d_h7 + d_5 ≤ mc ∧ e_h7 + e_6 ≤ ms) ∧ ((0 ≤ x2h7 → wja_Mo_keys_68 mc ms Post K_7 a0 n1 y_4 s_3 (d_h7 + d_5) (e_h7 + e_6) x4h7 x2h7) ∧ (¬ (0 ≤ x2h7) → wja_Mo_keys_68 mc ms Post K_7 a0 n1 y_4 s_3 (d_h7 + d_5) (e_h7 + e_6) x4h7 r_2))) s_h7 a0 a0 5 0 x3h7) ∧ (¬ (x_1 = 32) → xS y_h7 s_h7 a0 5 x3h7 (vp_nar .byte x_1.toInt8.toInt32) (fun s_10 : St => wja_Mo_keys_71 mc ms Post K_7 a0 n1 y_h7 s_10 d_h7 e_h7 x2h7 (x3h7 + 1) x4h7))))))
def wla_Mo_keys_7 (mc ms : Nat) (Post : Ly → St → Int32 → Nat → Nat → Prop) (a0 : Nat) (n1 : Nat) (y_h7 : Ly) (s_h7 : St) (d_h7 e_h7 : Nat) (x2h7 : Int32) (x3h7 : Int32) (x4h7 : Int32) : Prop := ∃ (I : Ly → St → Nat → Nat → Int32 → Int32 → Int32 → Prop) (μ : Ly → St → Nat → Nat → Int32 → Int32 → Int32 → Nat), I y_h7 s_h7 d_h7 e_h7 x2h7 x3h7 x4h7 ∧ ∀ (u1 : Ly) (u2 : St) (u3 u4 : Nat) (t0 : Int32) (t1 : Int32) (t2 : Int32), I u1 u2 u3 u4 t0 t1 t2 → wba_Mo_keys_7 mc ms Post (fun z1 z2 z3 z4 t0q t1q t2q => I z1 z2 z3 z4 t0q t1q t2q ∧ μ z1 z2 z3 z4 t0q t1q t2q < μ u1 u2 u3 u4 t0 t1 t2) a0 n1 u1 u2 u3 u4 t0 t1 t2
def wa_Mo_keys (mc ms : Nat) (y : Ly) (Post : Ly → St → Int32 → Nat → Nat → Prop) (σ : St) (a0 : Nat) (n1 : Nat) : Prop := wla_Mo_keys_7 mc ms Post a0 n1 y σ 0 0 (-1) 0 0
set_option maxHeartbeats 4000000 in
set_option maxRecDepth 100000 in
theorem ca_Mo_keys (l : Launch) (D : va_G) (g : Nat → ClassId) (F : Nat → SL) (sl : List SL) (hF : SOK F sl) (ad : Nat → Nat) (mc ms : Nat) (y : Ly) (Post : Ly → St → Int32 → Nat → Nat → Prop) (σ : St) (a0 : Nat) (n1 : Nat) (sz uz : Nat) (h_a0 : cl a0 = 14) (h_n1 : n1 < strT.length) (h : wa_Mo_keys mc ms y Post σ a0 n1) : Met l y_Mo_keys (mw y_Mo_keys b_Mo_keys 7 (some .int)) (ra_Mo_keys mc ms) (PCu g D sl [.ref (ad a0), .ref (sk (F n1))] sz uz (ws g ad y σ)) (va_Qi (fun (r : Int32) (u : Ly × St × Nat × Nat) => Post u.1 u.2.1 r u.2.2.1 u.2.2.2) (QU D (va_A (ws g ad y σ) sz) (fun u => ws g ad u.1 u.2.1) sz uz (fun u => u.2.2.1) (fun u => u.2.2.2)) (va_A (ws g ad y σ) sz)) mc ms (va_A (ws g ad y σ) sz) := by
  refine ofIu (by decide +kernel) (Nat.le_of_ble_eq_true rfl) ?_
  intro p e s m args below meth c A Q ls H locs G hsz hP hD hS hl hret
  subst hsz
  have hl : lv_has ls 7 [(0, .ref (ad a0)), (1, .ref (sk (F n1)))] := hl
  have hd : 0 ≤ mc ∧ 0 ≤ ms := ⟨Nat.zero_le _, Nat.zero_le _⟩
  unfold wa_Mo_keys at h
  refine lv_iconst (v := (-1)) G.1 G.2.1 d_Mo_keys_0 (by decide) ?_
  refine lv_istore_n (lv' := [(2, .int (-1)), (0, .ref (ad a0)), (1, .ref (sk (F n1)))]) G.1 G.2.1 d_Mo_keys_1 rfl hl (by decide) rfl (fun ls hl => ?_)
  refine lv_iconst (v := 0) G.1 G.2.1 d_Mo_keys_2 (by decide) ?_
  refine lv_istore_n (lv' := [(3, .int 0), (2, .int (-1)), (0, .ref (ad a0)), (1, .ref (sk (F n1)))]) G.1 G.2.1 d_Mo_keys_3 rfl hl (by decide) rfl (fun ls hl => ?_)
  refine lv_iconst (v := 0) G.1 G.2.1 d_Mo_keys_4 (by decide) ?_
  refine lv_istore (lv' := [(4, .int 0), (3, .int 0), (2, .int (-1)), (0, .ref (ad a0)), (1, .ref (sk (F n1)))]) G.1 G.2.1 d_Mo_keys_5 hl (by decide) rfl (fun ls hl => ?_)
  unfold wla_Mo_keys_7 at h
  obtain ⟨I_7, μ_7, hI_7, hB_7⟩ := h
  have L_7 : ∀ (n_7 : Nat) (y_h7 : Ly) (s_h7 : St) (d_h7 e_h7 : Nat) (x2h7 : Int32) (x3h7 : Int32) (x4h7 : Int32), μ_7 y_h7 s_h7 d_h7 e_h7 x2h7 x3h7 x4h7 < n_7 → I_7 y_h7 s_h7 d_h7 e_h7 x2h7 x3h7 x4h7 → ∀ (H : Heap) (locs : List Loc), va_P D CL (ws g ad y_h7 s_h7) H → va_D A (ws g ad y_h7 s_h7) → va_S A s.heap H locs → ∀ ls, lv_has ls 7 [(0, .ref (ad a0)), (1, .ref (sk (F n1))), (2, .int x2h7), (3, .int x3h7), (4, .int x4h7)] → W p l e (ra_Mo_keys mc ms) s m args below meth c H locs d_h7 e_h7 Q (F0 m 7 ls []) := by
    intro n_7
    induction n_7 with
    | zero => intro y_h7 s_h7 d_h7 e_h7 x2h7 x3h7 x4h7 hμ; exact absurd hμ (Nat.not_lt_zero _)
    | succ n_7 ih_7 =>
      intro y_h7 s_h7 d_h7 e_h7 x2h7 x3h7 x4h7 hμ_7 hJ H locs hP hD hS ls hl
      obtain ⟨K_7, hK_7, h⟩ : ∃ K : Ly → St → Nat → Nat → Int32 → Int32 → Int32 → Prop, (∀ z1 z2 z3 z4 (t0 : Int32) (t1 : Int32) (t2 : Int32), K z1 z2 z3 z4 t0 t1 t2 → I_7 z1 z2 z3 z4 t0 t1 t2 ∧ μ_7 z1 z2 z3 z4 t0 t1 t2 < μ_7 y_h7 s_h7 d_h7 e_h7 x2h7 x3h7 x4h7) ∧ wba_Mo_keys_7 mc ms Post K a0 n1 y_h7 s_h7 d_h7 e_h7 x2h7 x3h7 x4h7 := ⟨_, fun _ _ _ _ _ _ _ h => h, hB_7 y_h7 s_h7 d_h7 e_h7 x2h7 x3h7 x4h7 hJ⟩
      unfold wba_Mo_keys_7 at h
      obtain ⟨hd, h⟩ := h
      refine lv_iload G.1 G.2.1 d_Mo_keys_7 (lv_at hl 4 rfl) ?_
      refine lv_aload_n G.1 G.2.1 d_Mo_keys_9 rfl (lv_at hl 1 rfl) ?_
      refine ulen hF h_n1 G hP hD hS w9_Js_length q2581 ⟨Nat.le_of_ble_eq_true rfl, Nat.le_of_ble_eq_true rfl⟩ hl.1 (Nat.le_of_ble_eq_true rfl) hd d_Mo_keys_10 (fun H locs hP hD hS => ?_)
      refine lv_icmp_ge (tgt := 77) G.1 G.2.1 d_Mo_keys_13 (by decide) (fun c13 => ?_) (fun c13 => ?_)
      · skip
        have h := h.1 c13
        refine lv_iload_n G.1 G.2.1 d_Mo_keys_77 rfl (lv_at hl 2 rfl) ?_
        exact hret _ (y_h7, s_h7, d_h7, e_h7) _ _ _ _ _ ls h hP hD hS (Nat.le_refl _) (Nat.le_refl _) hd.1 hd.2 d_Mo_keys_78
      · skip
        have h := h.2 c13
        refine lv_aload_n G.1 G.2.1 d_Mo_keys_16 rfl (lv_at hl 1 rfl) ?_
        refine lv_iload G.1 G.2.1 d_Mo_keys_17 (lv_at hl 4 rfl) ?_
        refine uchar hF h_n1 G hP hD hS h w9_Js_charAt q2582 ⟨Nat.le_of_ble_eq_true rfl, Nat.le_of_ble_eq_true rfl⟩ hl.1 (Nat.le_of_ble_eq_true rfl) hd d_Mo_keys_19 (fun x_1 H locs h hP hD hS => ?_)
        refine lv_istore (lv' := [(5, .int x_1), (0, .ref (ad a0)), (1, .ref (sk (F n1))), (2, .int x2h7), (3, .int x3h7), (4, .int x4h7)]) G.1 G.2.1 d_Mo_keys_22 hl (by decide) rfl (fun ls hl => ?_)
        refine lv_iload G.1 G.2.1 d_Mo_keys_24 (lv_at hl 0 rfl) ?_
        refine lv_bipush (v := 32) G.1 G.2.1 d_Mo_keys_26 (by decide) ?_
        have J_71 : ∀ (y_j71 : Ly) (s_j71 : St) (d_j71 e_j71 : Nat) (x2j71 : Int32) (x3j71 : Int32) (x4j71 : Int32) (H : Heap) (locs : List Loc), wja_Mo_keys_71 mc ms Post K_7 a0 n1 y_j71 s_j71 d_j71 e_j71 x2j71 x3j71 x4j71 → va_P D CL (ws g ad y_j71 s_j71) H → va_D A (ws g ad y_j71 s_j71) → va_S A s.heap H locs → ∀ ls, lv_has ls 7 [(0, .ref (ad a0)), (1, .ref (sk (F n1))), (2, .int x2j71), (3, .int x3j71), (4, .int x4j71)] → W p l e (ra_Mo_keys mc ms) s m args below meth c H locs d_j71 e_j71 Q (F0 m 71 ls []) := by
          intro y_j71 s_j71 d_j71 e_j71 x2j71 x3j71 x4j71 H locs h hP hD hS ls hl
          unfold wja_Mo_keys_71 at h
          obtain ⟨hd, h⟩ := h
          refine lv_iinc (v := x4j71 + 1) (lv' := [(4, .int (x4j71 + 1)), (0, .ref (ad a0)), (1, .ref (sk (F n1))), (2, .int x2j71), (3, .int x3j71)]) G.1 G.2.1 d_Mo_keys_71 hl (k := 4) rfl rfl (by decide) rfl (fun ls hl => ?_)
          refine lv_goto (tgt := 7) G.1 G.2.1 d_Mo_keys_74 (by decide) ?_
          have h := hK_7 y_j71 s_j71 d_j71 e_j71 x2j71 x3j71 (x4j71 + 1) h
          exact ih_7 y_j71 s_j71 d_j71 e_j71 x2j71 x3j71 (x4j71 + 1) (Nat.lt_of_lt_of_le h.2 (Nat.le_of_lt_succ hμ_7)) h.1 H locs hP hD hS ls (lv_sub hl [1, 2, 3, 4, 0] rfl)
        refine lv_icmp_eq (tgt := 46) G.1 G.2.1 d_Mo_keys_28 (by decide) (fun c28 => ?_) (fun c28 => ?_)
        · skip
          have h := h.1 c28
          refine W.eq (g2 := F0 m 46 ls []) rfl ?_
          refine lv_aload_n G.1 G.2.1 d_Mo_keys_46 rfl (lv_at hl 1 rfl) ?_
          refine lv_aload_n G.1 G.2.1 d_Mo_keys_47 rfl (lv_at hl 1 rfl) ?_
          refine ugf (v := .ref (yP y_h7 a0 5)) G hP h_a0 iMo rfl 5 (by decide) rfl q3069 rfl rfl d_Mo_keys_48 ?_
          refine lv_iconst (v := 0) G.1 G.2.1 d_Mo_keys_51 (by decide) ?_
          refine lv_iload_n G.1 G.2.1 d_Mo_keys_52 rfl (lv_at hl 4 rfl) ?_
          obtain ⟨mc_7, ms_8, hr_9, h⟩ := h
          refine uaVi (As := [.ref (yP y_h7 a0 5), .int 0, .int x3h7]) (rest := []) G hP hD hS (ca_Mo_nameIn l D g ad mc_7 ms_8 y_h7 _ s_h7 a0 a0 5 0 x3h7 H.size (us H) h_a0 ⟨(kdp h_a0 rfl), (typ h_a0 rfl)⟩ h) w9_Mo_nameIn q2583 ⟨Nat.le_of_ble_eq_true rfl, Nat.le_of_ble_eq_true rfl⟩ rfl rfl h_a0 (q := (RMo, TMo, 131)) rfl rfl hl.1 rfl (Nat.le_of_ble_eq_true rfl) rfl hr_9 d_Mo_keys_53 (fun r_2 y_4 s_3 d_5 e_6 H locs h hP hD hS => ?_)
          have hl := lv_sub (l' := [(0, .ref (ad a0)), (1, .ref (sk (F n1))), (2, .int x2h7), (4, .int x4h7)]) hl [1, 2, 3, 5] rfl
          obtain ⟨hd, h⟩ := h
          refine lv_istore (lv' := [(6, .int r_2), (0, .ref (ad a0)), (1, .ref (sk (F n1))), (2, .int x2h7), (4, .int x4h7)]) G.1 G.2.1 d_Mo_keys_56 hl (by decide) rfl (fun ls hl => ?_)
          refine lv_iload_n G.1 G.2.1 d_Mo_keys_58 rfl (lv_at hl 3 rfl) ?_
          have J_68 : ∀ (y_j68 : Ly) (s_j68 : St) (d_j68 e_j68 : Nat) (x4j68 : Int32) (z0j68 : Int32) (H : Heap) (locs : List Loc), wja_Mo_keys_68 mc ms Post K_7 a0 n1 y_j68 s_j68 d_j68 e_j68 x4j68 z0j68 → va_P D CL (ws g ad y_j68 s_j68) H → va_D A (ws g ad y_j68 s_j68) → va_S A s.heap H locs → ∀ ls, lv_has ls 7 [(0, .ref (ad a0)), (1, .ref (sk (F n1))), (4, .int x4j68)] → W p l e (ra_Mo_keys mc ms) s m args below meth c H locs d_j68 e_j68 Q (F0 m 68 ls [.int z0j68]) := by
            intro y_j68 s_j68 d_j68 e_j68 x4j68 z0j68 H locs h hP hD hS ls hl
            unfold wja_Mo_keys_68 at h
            obtain ⟨hd, h⟩ := h
            refine lv_istore_n (lv' := [(2, .int z0j68), (0, .ref (ad a0)), (1, .ref (sk (F n1))), (4, .int x4j68)]) G.1 G.2.1 d_Mo_keys_68 rfl hl (by decide) rfl (fun ls hl => ?_)
            refine lv_iconst (v := 0) G.1 G.2.1 d_Mo_keys_69 (by decide) ?_
            refine lv_istore_n (lv' := [(3, .int 0), (2, .int z0j68), (0, .ref (ad a0)), (1, .ref (sk (F n1))), (4, .int x4j68)]) G.1 G.2.1 d_Mo_keys_70 rfl hl (by decide) rfl (fun ls hl => ?_)
            exact J_71 y_j68 s_j68 d_j68 e_j68 z0j68 0 x4j68 H locs h hP hD hS ls (lv_sub hl [2, 3, 1, 0, 4] rfl)
          refine lv_if_ge (tgt := 67) G.1 G.2.1 d_Mo_keys_59 (by decide) (fun c59 => ?_) (fun c59 => ?_)
          · skip
            have h := h.1 c59
            refine lv_iload_n G.1 G.2.1 d_Mo_keys_67 rfl (lv_at hl 3 rfl) ?_
            exact J_68 y_4 s_3 (d_h7 + d_5) (e_h7 + e_6) x4h7 x2h7 H locs h hP hD hS ls (lv_sub hl [1, 2, 4] rfl)
          · skip
            have h := h.2 c59
            refine lv_iload G.1 G.2.1 d_Mo_keys_62 (lv_at hl 0 rfl) ?_
            refine lv_goto (tgt := 68) G.1 G.2.1 d_Mo_keys_64 (by decide) ?_
            exact J_68 y_4 s_3 (d_h7 + d_5) (e_h7 + e_6) x4h7 r_2 H locs h hP hD hS ls (lv_sub hl [1, 2, 4] rfl)
        · skip
          have h := h.2 c28
          refine W.eq (g2 := F0 m 31 ls []) rfl ?_
          refine lv_aload_n G.1 G.2.1 d_Mo_keys_31 rfl (lv_at hl 1 rfl) ?_
          refine ugf (v := .ref (yP y_h7 a0 5)) G hP h_a0 iMo rfl 5 (by decide) rfl q3069 rfl rfl d_Mo_keys_32 ?_
          refine lv_iload_n G.1 G.2.1 d_Mo_keys_35 rfl (lv_at hl 4 rfl) ?_
          refine lv_iload G.1 G.2.1 d_Mo_keys_36 (lv_at hl 0 rfl) ?_
          refine lv_i2b G.1 G.2.1 d_Mo_keys_38 rfl ?_
          refine ubast G hP hD hS (kdp h_a0 rfl) (typ h_a0 rfl) h d_Mo_keys_39 (fun s_10 H locs h hP hD hS => ?_)
          refine lv_iinc (v := x3h7 + 1) (lv' := [(3, .int (x3h7 + 1)), (5, .int x_1), (0, .ref (ad a0)), (1, .ref (sk (F n1))), (2, .int x2h7), (4, .int x4h7)]) G.1 G.2.1 d_Mo_keys_40 hl (k := 4) rfl rfl (by decide) rfl (fun ls hl => ?_)
          refine lv_goto (tgt := 71) G.1 G.2.1 d_Mo_keys_43 (by decide) ?_
          exact J_71 y_h7 s_10 d_h7 e_h7 x2h7 (x3h7 + 1) x4h7 H locs h hP hD hS ls (lv_sub hl [2, 3, 4, 0, 5] rfl)
  exact L_7 _ y σ 0 0 (-1) 0 0 (Nat.lt_succ_self _) hI_7 H locs hP hD hS ls (lv_sub hl [3, 4, 2, 1, 0] rfl)
theorem q3098 : Cond.fieldLink "ClassWorksModel" 64 "ClassWorksModel" "sigFirsts" "[I" ∈ lw_ok := lw_okmem (List.mem_of_getElem? (i := 3098) (by decide +kernel)) rfl
theorem q3100 : Cond.fieldLink "ClassWorksModel" 77 "ClassWorksModel" "sigs" "I" ∈ lw_ok := lw_okmem (List.mem_of_getElem? (i := 3100) (by decide +kernel)) rfl
theorem q3097 : Cond.fieldLink "ClassWorksModel" 71 "ClassWorksModel" "sigNexts" "[I" ∈ lw_ok := lw_okmem (List.mem_of_getElem? (i := 3097) (by decide +kernel)) rfl
theorem q3101 : Cond.fieldLink "ClassWorksModel" 89 "ClassWorksModel" "sigSize" "I" ∈ lw_ok := lw_okmem (List.mem_of_getElem? (i := 3101) (by decide +kernel)) rfl
theorem q2627 : Cond.methodLink "ClassWorksModel" 67 y_Mo_isSignature ∈ lw_ok := lw_okmem (List.mem_of_getElem? (i := 2627) (by decide +kernel)) rfl
theorem q2630 : Cond.code y_Mo_isSignature b_Mo_isSignature 7 (some (.boolean)) ∈ lw_ok := lw_okmem (List.mem_of_getElem? (i := 2630) (by decide +kernel)) rfl
theorem q2629 : Cond.instanceMethod y_Mo_isSignature ∈ lw_ok := lw_okmem (List.mem_of_getElem? (i := 2629) (by decide +kernel)) rfl
theorem q173 : Cond.selects y_Mo_isSignature.cls y_Mo_isSignature y_Mo_isSignature ∈ lw_ok := lw_okmem (List.mem_of_getElem? (i := 173) (by decide +kernel)) rfl
theorem w9_Mo_isSignature : CWv y_Mo_isSignature b_Mo_isSignature 7 (some (.boolean)) 4 ∧ Cond.instanceMethod y_Mo_isSignature ∈ lw_ok ∧ Cond.selects y_Mo_isSignature.cls y_Mo_isSignature y_Mo_isSignature ∈ lw_ok := ⟨⟨q2630, q348, by decide +kernel, by decide +kernel, by decide +kernel⟩, q2629, q173⟩
def y_Mo_signature : MethodName := ⟨"ClassWorksModel", "signature", "([III)I"⟩
abbrev b_Mo_signature : ByteArray := prog_14_method_7_code
theorem d_Mo_signature_0 : decode b_Mo_signature 0 = .ok (.bipush 31, 2) := by decide +kernel
theorem d_Mo_signature_2 : decode b_Mo_signature 2 = .ok (.iload_n 2, 1) := by decide +kernel
theorem d_Mo_signature_3 : decode b_Mo_signature 3 = .ok (.imul, 1) := by decide +kernel
theorem d_Mo_signature_4 : decode b_Mo_signature 4 = .ok (.iload_n 3, 1) := by decide +kernel
theorem d_Mo_signature_5 : decode b_Mo_signature 5 = .ok (.iadd, 1) := by decide +kernel
theorem d_Mo_signature_6 : decode b_Mo_signature 6 = .ok (.istore 4, 2) := by decide +kernel
theorem d_Mo_signature_8 : decode b_Mo_signature 8 = .ok (.iconst 0, 1) := by decide +kernel
theorem d_Mo_signature_9 : decode b_Mo_signature 9 = .ok (.istore 5, 2) := by decide +kernel
theorem d_Mo_signature_11 : decode b_Mo_signature 11 = .ok (.iload 5, 2) := by decide +kernel
theorem d_Mo_signature_13 : decode b_Mo_signature 13 = .ok (.iload_n 2, 1) := by decide +kernel
theorem d_Mo_signature_14 : decode b_Mo_signature 14 = .ok (.if_icmp .ge 21, 3) := by decide +kernel
theorem d_Mo_signature_17 : decode b_Mo_signature 17 = .ok (.bipush 31, 2) := by decide +kernel
theorem d_Mo_signature_19 : decode b_Mo_signature 19 = .ok (.iload 4, 2) := by decide +kernel
theorem d_Mo_signature_21 : decode b_Mo_signature 21 = .ok (.imul, 1) := by decide +kernel
theorem d_Mo_signature_22 : decode b_Mo_signature 22 = .ok (.aload_n 1, 1) := by decide +kernel
theorem d_Mo_signature_23 : decode b_Mo_signature 23 = .ok (.iload 5, 2) := by decide +kernel
theorem d_Mo_signature_25 : decode b_Mo_signature 25 = .ok (.iaload, 1) := by decide +kernel
theorem d_Mo_signature_26 : decode b_Mo_signature 26 = .ok (.iadd, 1) := by decide +kernel
theorem d_Mo_signature_27 : decode b_Mo_signature 27 = .ok (.istore 4, 2) := by decide +kernel
theorem d_Mo_signature_29 : decode b_Mo_signature 29 = .ok (.iinc 5 1, 3) := by decide +kernel
theorem d_Mo_signature_32 : decode b_Mo_signature 32 = .ok (.goto (-21), 3) := by decide +kernel
theorem d_Mo_signature_35 : decode b_Mo_signature 35 = .ok (.iload 4, 2) := by decide +kernel
theorem d_Mo_signature_37 : decode b_Mo_signature 37 = .ok (.iload 4, 2) := by decide +kernel
theorem d_Mo_signature_39 : decode b_Mo_signature 39 = .ok (.bipush 11, 2) := by decide +kernel
theorem d_Mo_signature_41 : decode b_Mo_signature 41 = .ok (.iushr, 1) := by decide +kernel
theorem d_Mo_signature_42 : decode b_Mo_signature 42 = .ok (.ixor, 1) := by decide +kernel
theorem d_Mo_signature_43 : decode b_Mo_signature 43 = .ok (.sipush 1023, 3) := by decide +kernel
theorem d_Mo_signature_46 : decode b_Mo_signature 46 = .ok (.iand, 1) := by decide +kernel
theorem d_Mo_signature_47 : decode b_Mo_signature 47 = .ok (.istore 5, 2) := by decide +kernel
theorem d_Mo_signature_49 : decode b_Mo_signature 49 = .ok (.aload_n 0, 1) := by decide +kernel
theorem d_Mo_signature_50 : decode b_Mo_signature 50 = .ok (.getfield 64, 3) := by decide +kernel
theorem d_Mo_signature_53 : decode b_Mo_signature 53 = .ok (.iload 5, 2) := by decide +kernel
theorem d_Mo_signature_55 : decode b_Mo_signature 55 = .ok (.iaload, 1) := by decide +kernel
theorem d_Mo_signature_56 : decode b_Mo_signature 56 = .ok (.istore 6, 2) := by decide +kernel
theorem d_Mo_signature_58 : decode b_Mo_signature 58 = .ok (.iload 6, 2) := by decide +kernel
theorem d_Mo_signature_60 : decode b_Mo_signature 60 = .ok (.ifCond .le 36, 3) := by decide +kernel
theorem d_Mo_signature_63 : decode b_Mo_signature 63 = .ok (.aload_n 0, 1) := by decide +kernel
theorem d_Mo_signature_64 : decode b_Mo_signature 64 = .ok (.iload 6, 2) := by decide +kernel
theorem d_Mo_signature_66 : decode b_Mo_signature 66 = .ok (.iconst 1, 1) := by decide +kernel
theorem d_Mo_signature_67 : decode b_Mo_signature 67 = .ok (.isub, 1) := by decide +kernel
theorem d_Mo_signature_68 : decode b_Mo_signature 68 = .ok (.aload_n 1, 1) := by decide +kernel
theorem d_Mo_signature_69 : decode b_Mo_signature 69 = .ok (.iload_n 2, 1) := by decide +kernel
theorem d_Mo_signature_70 : decode b_Mo_signature 70 = .ok (.iload_n 3, 1) := by decide +kernel
theorem d_Mo_signature_71 : decode b_Mo_signature 71 = .ok (.invokevirtual 67, 3) := by decide +kernel
theorem d_Mo_signature_74 : decode b_Mo_signature 74 = .ok (.ifCond .eq 8, 3) := by decide +kernel
theorem d_Mo_signature_77 : decode b_Mo_signature 77 = .ok (.iload 6, 2) := by decide +kernel
theorem d_Mo_signature_79 : decode b_Mo_signature 79 = .ok (.iconst 1, 1) := by decide +kernel
theorem d_Mo_signature_80 : decode b_Mo_signature 80 = .ok (.isub, 1) := by decide +kernel
theorem d_Mo_signature_81 : decode b_Mo_signature 81 = .ok (.ireturn, 1) := by decide +kernel
theorem d_Mo_signature_82 : decode b_Mo_signature 82 = .ok (.aload_n 0, 1) := by decide +kernel
theorem d_Mo_signature_83 : decode b_Mo_signature 83 = .ok (.getfield 71, 3) := by decide +kernel
theorem d_Mo_signature_86 : decode b_Mo_signature 86 = .ok (.iload 6, 2) := by decide +kernel
theorem d_Mo_signature_88 : decode b_Mo_signature 88 = .ok (.iconst 1, 1) := by decide +kernel
theorem d_Mo_signature_89 : decode b_Mo_signature 89 = .ok (.isub, 1) := by decide +kernel
theorem d_Mo_signature_90 : decode b_Mo_signature 90 = .ok (.iaload, 1) := by decide +kernel
theorem d_Mo_signature_91 : decode b_Mo_signature 91 = .ok (.istore 6, 2) := by decide +kernel
theorem d_Mo_signature_93 : decode b_Mo_signature 93 = .ok (.goto (-35), 3) := by decide +kernel
theorem d_Mo_signature_96 : decode b_Mo_signature 96 = .ok (.aload_n 0, 1) := by decide +kernel
theorem d_Mo_signature_97 : decode b_Mo_signature 97 = .ok (.aload_n 0, 1) := by decide +kernel
theorem d_Mo_signature_98 : decode b_Mo_signature 98 = .ok (.getfield 74, 3) := by decide +kernel
theorem d_Mo_signature_101 : decode b_Mo_signature 101 = .ok (.aload_n 0, 1) := by decide +kernel
theorem d_Mo_signature_102 : decode b_Mo_signature 102 = .ok (.getfield 77, 3) := by decide +kernel
theorem d_Mo_signature_105 : decode b_Mo_signature 105 = .ok (.iconst 1, 1) := by decide +kernel
theorem d_Mo_signature_106 : decode b_Mo_signature 106 = .ok (.iadd, 1) := by decide +kernel
theorem d_Mo_signature_107 : decode b_Mo_signature 107 = .ok (.invokestatic 43, 3) := by decide +kernel
theorem d_Mo_signature_110 : decode b_Mo_signature 110 = .ok (.putfield 74, 3) := by decide +kernel
theorem d_Mo_signature_113 : decode b_Mo_signature 113 = .ok (.aload_n 0, 1) := by decide +kernel
theorem d_Mo_signature_114 : decode b_Mo_signature 114 = .ok (.aload_n 0, 1) := by decide +kernel
theorem d_Mo_signature_115 : decode b_Mo_signature 115 = .ok (.getfield 80, 3) := by decide +kernel
theorem d_Mo_signature_118 : decode b_Mo_signature 118 = .ok (.aload_n 0, 1) := by decide +kernel
theorem d_Mo_signature_119 : decode b_Mo_signature 119 = .ok (.getfield 77, 3) := by decide +kernel
theorem d_Mo_signature_122 : decode b_Mo_signature 122 = .ok (.iconst 1, 1) := by decide +kernel
theorem d_Mo_signature_123 : decode b_Mo_signature 123 = .ok (.iadd, 1) := by decide +kernel
theorem d_Mo_signature_124 : decode b_Mo_signature 124 = .ok (.invokestatic 43, 3) := by decide +kernel
theorem d_Mo_signature_127 : decode b_Mo_signature 127 = .ok (.putfield 80, 3) := by decide +kernel
theorem d_Mo_signature_130 : decode b_Mo_signature 130 = .ok (.aload_n 0, 1) := by decide +kernel
theorem d_Mo_signature_131 : decode b_Mo_signature 131 = .ok (.aload_n 0, 1) := by decide +kernel
theorem d_Mo_signature_132 : decode b_Mo_signature 132 = .ok (.getfield 83, 3) := by decide +kernel
theorem d_Mo_signature_135 : decode b_Mo_signature 135 = .ok (.aload_n 0, 1) := by decide +kernel
theorem d_Mo_signature_136 : decode b_Mo_signature 136 = .ok (.getfield 77, 3) := by decide +kernel
theorem d_Mo_signature_139 : decode b_Mo_signature 139 = .ok (.iconst 1, 1) := by decide +kernel
theorem d_Mo_signature_140 : decode b_Mo_signature 140 = .ok (.iadd, 1) := by decide +kernel
theorem d_Mo_signature_141 : decode b_Mo_signature 141 = .ok (.invokestatic 43, 3) := by decide +kernel
theorem d_Mo_signature_144 : decode b_Mo_signature 144 = .ok (.putfield 83, 3) := by decide +kernel
theorem d_Mo_signature_147 : decode b_Mo_signature 147 = .ok (.aload_n 0, 1) := by decide +kernel
theorem d_Mo_signature_148 : decode b_Mo_signature 148 = .ok (.aload_n 0, 1) := by decide +kernel
theorem d_Mo_signature_149 : decode b_Mo_signature 149 = .ok (.getfield 71, 3) := by decide +kernel
theorem d_Mo_signature_152 : decode b_Mo_signature 152 = .ok (.aload_n 0, 1) := by decide +kernel
theorem d_Mo_signature_153 : decode b_Mo_signature 153 = .ok (.getfield 77, 3) := by decide +kernel
theorem d_Mo_signature_156 : decode b_Mo_signature 156 = .ok (.iconst 1, 1) := by decide +kernel
theorem d_Mo_signature_157 : decode b_Mo_signature 157 = .ok (.iadd, 1) := by decide +kernel
theorem d_Mo_signature_158 : decode b_Mo_signature 158 = .ok (.invokestatic 43, 3) := by decide +kernel
theorem d_Mo_signature_161 : decode b_Mo_signature 161 = .ok (.putfield 71, 3) := by decide +kernel
theorem d_Mo_signature_164 : decode b_Mo_signature 164 = .ok (.aload_n 0, 1) := by decide +kernel
theorem d_Mo_signature_165 : decode b_Mo_signature 165 = .ok (.aload_n 0, 1) := by decide +kernel
theorem d_Mo_signature_166 : decode b_Mo_signature 166 = .ok (.getfield 86, 3) := by decide +kernel
theorem d_Mo_signature_169 : decode b_Mo_signature 169 = .ok (.aload_n 0, 1) := by decide +kernel
theorem d_Mo_signature_170 : decode b_Mo_signature 170 = .ok (.getfield 89, 3) := by decide +kernel
theorem d_Mo_signature_173 : decode b_Mo_signature 173 = .ok (.iload_n 2, 1) := by decide +kernel
theorem d_Mo_signature_174 : decode b_Mo_signature 174 = .ok (.iadd, 1) := by decide +kernel
theorem d_Mo_signature_175 : decode b_Mo_signature 175 = .ok (.invokestatic 43, 3) := by decide +kernel
theorem d_Mo_signature_178 : decode b_Mo_signature 178 = .ok (.putfield 86, 3) := by decide +kernel
theorem d_Mo_signature_181 : decode b_Mo_signature 181 = .ok (.aload_n 1, 1) := by decide +kernel
theorem d_Mo_signature_182 : decode b_Mo_signature 182 = .ok (.iconst 0, 1) := by decide +kernel
theorem d_Mo_signature_183 : decode b_Mo_signature 183 = .ok (.aload_n 0, 1) := by decide +kernel
theorem d_Mo_signature_184 : decode b_Mo_signature 184 = .ok (.getfield 86, 3) := by decide +kernel
theorem d_Mo_signature_187 : decode b_Mo_signature 187 = .ok (.aload_n 0, 1) := by decide +kernel
theorem d_Mo_signature_188 : decode b_Mo_signature 188 = .ok (.getfield 89, 3) := by decide +kernel
theorem d_Mo_signature_191 : decode b_Mo_signature 191 = .ok (.iload_n 2, 1) := by decide +kernel
theorem d_Mo_signature_192 : decode b_Mo_signature 192 = .ok (.invokestatic 11, 3) := by decide +kernel
theorem d_Mo_signature_195 : decode b_Mo_signature 195 = .ok (.aload_n 0, 1) := by decide +kernel
theorem d_Mo_signature_196 : decode b_Mo_signature 196 = .ok (.getfield 74, 3) := by decide +kernel
theorem d_Mo_signature_199 : decode b_Mo_signature 199 = .ok (.aload_n 0, 1) := by decide +kernel
theorem d_Mo_signature_200 : decode b_Mo_signature 200 = .ok (.getfield 77, 3) := by decide +kernel
theorem d_Mo_signature_203 : decode b_Mo_signature 203 = .ok (.aload_n 0, 1) := by decide +kernel
theorem d_Mo_signature_204 : decode b_Mo_signature 204 = .ok (.getfield 89, 3) := by decide +kernel
theorem d_Mo_signature_207 : decode b_Mo_signature 207 = .ok (.iastore, 1) := by decide +kernel
theorem d_Mo_signature_208 : decode b_Mo_signature 208 = .ok (.aload_n 0, 1) := by decide +kernel
theorem d_Mo_signature_209 : decode b_Mo_signature 209 = .ok (.getfield 80, 3) := by decide +kernel
theorem d_Mo_signature_212 : decode b_Mo_signature 212 = .ok (.aload_n 0, 1) := by decide +kernel
theorem d_Mo_signature_213 : decode b_Mo_signature 213 = .ok (.getfield 77, 3) := by decide +kernel
theorem d_Mo_signature_216 : decode b_Mo_signature 216 = .ok (.iload_n 2, 1) := by decide +kernel
theorem d_Mo_signature_217 : decode b_Mo_signature 217 = .ok (.iastore, 1) := by decide +kernel
theorem d_Mo_signature_218 : decode b_Mo_signature 218 = .ok (.aload_n 0, 1) := by decide +kernel
theorem d_Mo_signature_219 : decode b_Mo_signature 219 = .ok (.getfield 83, 3) := by decide +kernel
theorem d_Mo_signature_222 : decode b_Mo_signature 222 = .ok (.aload_n 0, 1) := by decide +kernel
theorem d_Mo_signature_223 : decode b_Mo_signature 223 = .ok (.getfield 77, 3) := by decide +kernel
theorem d_Mo_signature_226 : decode b_Mo_signature 226 = .ok (.iload_n 3, 1) := by decide +kernel
theorem d_Mo_signature_227 : decode b_Mo_signature 227 = .ok (.iastore, 1) := by decide +kernel
theorem d_Mo_signature_228 : decode b_Mo_signature 228 = .ok (.aload_n 0, 1) := by decide +kernel
theorem d_Mo_signature_229 : decode b_Mo_signature 229 = .ok (.getfield 71, 3) := by decide +kernel
theorem d_Mo_signature_232 : decode b_Mo_signature 232 = .ok (.aload_n 0, 1) := by decide +kernel
theorem d_Mo_signature_233 : decode b_Mo_signature 233 = .ok (.getfield 77, 3) := by decide +kernel
theorem d_Mo_signature_236 : decode b_Mo_signature 236 = .ok (.aload_n 0, 1) := by decide +kernel
theorem d_Mo_signature_237 : decode b_Mo_signature 237 = .ok (.getfield 64, 3) := by decide +kernel
theorem d_Mo_signature_240 : decode b_Mo_signature 240 = .ok (.iload 5, 2) := by decide +kernel
theorem d_Mo_signature_242 : decode b_Mo_signature 242 = .ok (.iaload, 1) := by decide +kernel
theorem d_Mo_signature_243 : decode b_Mo_signature 243 = .ok (.iastore, 1) := by decide +kernel
theorem d_Mo_signature_244 : decode b_Mo_signature 244 = .ok (.aload_n 0, 1) := by decide +kernel
theorem d_Mo_signature_245 : decode b_Mo_signature 245 = .ok (.dup, 1) := by decide +kernel
theorem d_Mo_signature_246 : decode b_Mo_signature 246 = .ok (.getfield 89, 3) := by decide +kernel
theorem d_Mo_signature_249 : decode b_Mo_signature 249 = .ok (.iload_n 2, 1) := by decide +kernel
theorem d_Mo_signature_250 : decode b_Mo_signature 250 = .ok (.iadd, 1) := by decide +kernel
theorem d_Mo_signature_251 : decode b_Mo_signature 251 = .ok (.putfield 89, 3) := by decide +kernel
theorem d_Mo_signature_254 : decode b_Mo_signature 254 = .ok (.aload_n 0, 1) := by decide +kernel
theorem d_Mo_signature_255 : decode b_Mo_signature 255 = .ok (.dup, 1) := by decide +kernel
theorem d_Mo_signature_256 : decode b_Mo_signature 256 = .ok (.getfield 77, 3) := by decide +kernel
theorem d_Mo_signature_259 : decode b_Mo_signature 259 = .ok (.iconst 1, 1) := by decide +kernel
theorem d_Mo_signature_260 : decode b_Mo_signature 260 = .ok (.iadd, 1) := by decide +kernel
theorem d_Mo_signature_261 : decode b_Mo_signature 261 = .ok (.putfield 77, 3) := by decide +kernel
theorem d_Mo_signature_264 : decode b_Mo_signature 264 = .ok (.aload_n 0, 1) := by decide +kernel
theorem d_Mo_signature_265 : decode b_Mo_signature 265 = .ok (.getfield 64, 3) := by decide +kernel
theorem d_Mo_signature_268 : decode b_Mo_signature 268 = .ok (.iload 5, 2) := by decide +kernel
theorem d_Mo_signature_270 : decode b_Mo_signature 270 = .ok (.aload_n 0, 1) := by decide +kernel
theorem d_Mo_signature_271 : decode b_Mo_signature 271 = .ok (.getfield 77, 3) := by decide +kernel
theorem d_Mo_signature_274 : decode b_Mo_signature 274 = .ok (.iastore, 1) := by decide +kernel
theorem d_Mo_signature_275 : decode b_Mo_signature 275 = .ok (.aload_n 0, 1) := by decide +kernel
theorem d_Mo_signature_276 : decode b_Mo_signature 276 = .ok (.getfield 77, 3) := by decide +kernel
theorem d_Mo_signature_279 : decode b_Mo_signature 279 = .ok (.iconst 1, 1) := by decide +kernel
theorem d_Mo_signature_280 : decode b_Mo_signature 280 = .ok (.isub, 1) := by decide +kernel
theorem d_Mo_signature_281 : decode b_Mo_signature 281 = .ok (.ireturn, 1) := by decide +kernel
abbrev ra_Mo_signature (mc ms : Nat) : Room := { frames := 2, cells := mc, slots := ms, locals := 150 }
def wba_Mo_signature_58 (mc ms : Nat) (Post : Ly → St → Int32 → Nat → Nat → Prop) (K_58 : Ly → St → Nat → Nat → Int32 → Int32 → Int32 → Int32 → Prop) (a0 : Nat) (a1 : Nat) (k1 : Nat) (y_h58 : Ly) (s_h58 : St) (d_h58 e_h58 : Nat) (x2h58 : Int32) (x3h58 : Int32) (x5h58 : Int32) (x6h58 : Int32) : Prop := (d_h58 ≤ mc ∧ e_h58 ≤ ms) ∧ ((x6h58 ≤ 0 → xR mc ms d_h58 e_h58 .int y_h58 s_h58 a0 30 ((sV s_h58 a0 36) + 1) (fun (y_2 : Ly) (s_3 : St) (d_4 e_5 : Nat) => (d_4 ≤ mc ∧ e_5 ≤ ms) ∧ yP y_h58 a1 k1 = yP y_2 a1 k1 ∧ xR mc ms d_4 e_5 .int y_2 s_3 a0 31 ((sV s_3 a0 36) + 1) (fun (y_7 : Ly) (s_8 : St) (d_9 e_10 : Nat) => (d_9 ≤ mc ∧ e_10 ≤ ms) ∧ yP y_2 a1 k1 = yP y_7 a1 k1 ∧ xR mc ms d_9 e_10 .int y_7 s_8 a0 32 ((sV s_8 a0 36) + 1) (fun (y_12 : Ly) (s_13 : St) (d_14 e_15 : Nat) => (d_14 ≤ mc ∧ e_15 ≤ ms) ∧ yP y_7 a1 k1 = yP y_12 a1 k1 ∧ xR mc ms d_14 e_15 .int y_12 s_13 a0 33 ((sV s_13 a0 36) + 1) (fun (y_17 : Ly) (s_18 : St) (d_19 e_20 : Nat) => (d_19 ≤ mc ∧ e_20 ≤ ms) ∧ yP y_12 a1 k1 = yP y_17 a1 k1 ∧ xR mc ms d_19 e_20 .int y_17 s_18 a0 35 ((sV s_18 a0 37) + x2h58) (fun (y_22 : Ly) (s_23 : St) (d_24 e_25 : Nat) => (d_24 ≤ mc ∧ e_25 ≤ ms) ∧ yP y_17 a1 k1 = yP y_22 a1 k1 ∧ xC y_22 s_23 a1 k1 a0 35 .int 0 (sV s_23 a0 37) x2h58 (fun s_27 : St => xS y_22 s_27 a0 30 (sV s_27 a0 36) (sV s_27 a0 37) (fun s_28 : St => xS y_22 s_28 a0 31 (sV s_28 a0 36) x2h58 (fun s_29 : St => xS y_22 s_29 a0 32 (sV s_29 a0 36) x3h58 (fun s_30 : St => xA y_22 s_30 a0 34 x5h58 (fun x_31 : Int32 => xS y_22 s_30 a0 33 (sV s_30 a0 36) x_31 (fun s_32 : St => xP (uV s_32 a0 37 ((sV s_32 a0 37) + x2h58)) (fun s_33 : St => xP (uV s_33 a0 36 ((sV s_33 a0 36) + 1)) (fun s_34 : St => xS y_22 s_34 a0 34 x5h58 (sV s_34 a0 36) (fun s_35 : St => Post y_22 s_35 ((sV s_35 a0 36) - 1) d_24 e_25))))))))))))))) ∧ (¬ (x6h58 ≤ 0) → wu_Mo_isSignature y_h58 (fun (s_37 : St) (r_36 : Int32) => ((r_36 = 0 → xA y_h58 s_37 a0 33 (x6h58 - 1) (fun x_38 : Int32 => K_58 y_h58 s_37 d_h58 e_h58 x2h58 x3h58 x5h58 x_38)) ∧ (¬ (r_36 = 0) → Post y_h58 s_37 (x6h58 - 1) d_h58 e_h58))) s_h58 a0 (x6h58 - 1) a1 k1 x2h58 x3h58))
def wla_Mo_signature_58 (mc ms : Nat) (Post : Ly → St → Int32 → Nat → Nat → Prop) (a0 : Nat) (a1 : Nat) (k1 : Nat) (y_h58 : Ly) (s_h58 : St) (d_h58 e_h58 : Nat) (x2h58 : Int32) (x3h58 : Int32) (x5h58 : Int32) (x6h58 : Int32) : Prop := ∃ (I : Ly → St → Nat → Nat → Int32 → Int32 → Int32 → Int32 → Prop) (μ : Ly → St → Nat → Nat → Int32 → Int32 → Int32 → Int32 → Nat), I y_h58 s_h58 d_h58 e_h58 x2h58 x3h58 x5h58 x6h58 ∧ ∀ (u1 : Ly) (u2 : St) (u3 u4 : Nat) (t0 : Int32) (t1 : Int32) (t2 : Int32) (t3 : Int32), I u1 u2 u3 u4 t0 t1 t2 t3 → wba_Mo_signature_58 mc ms Post (fun z1 z2 z3 z4 t0q t1q t2q t3q => I z1 z2 z3 z4 t0q t1q t2q t3q ∧ μ z1 z2 z3 z4 t0q t1q t2q t3q < μ u1 u2 u3 u4 t0 t1 t2 t3) a0 a1 k1 u1 u2 u3 u4 t0 t1 t2 t3
def wba_Mo_signature_11 (mc ms : Nat) (Post : Ly → St → Int32 → Nat → Nat → Prop) (K_11 : Ly → St → Nat → Nat → Int32 → Int32 → Int32 → Int32 → Prop) (a0 : Nat) (a1 : Nat) (k1 : Nat) (y_h11 : Ly) (s_h11 : St) (d_h11 e_h11 : Nat) (x2h11 : Int32) (x3h11 : Int32) (x4h11 : Int32) (x5h11 : Int32) : Prop := (d_h11 ≤ mc ∧ e_h11 ≤ ms) ∧ ((x2h11 ≤ x5h11 → xA y_h11 s_h11 a0 34 ((x4h11 ^^^ ((x4h11.toUInt32 >>> ((11 : Int32).toUInt32 &&& Int32.toUInt32 31)).toInt32)) &&& 1023) (fun x_1 : Int32 => wla_Mo_signature_58 mc ms Post a0 a1 k1 y_h11 s_h11 d_h11 e_h11 x2h11 x3h11 ((x4h11 ^^^ ((x4h11.toUInt32 >>> ((11 : Int32).toUInt32 &&& Int32.toUInt32 31)).toInt32)) &&& 1023) x_1)) ∧ (¬ (x2h11 ≤ x5h11) → xA y_h11 s_h11 a1 k1 x5h11 (fun x_39 : Int32 => K_11 y_h11 s_h11 d_h11 e_h11 x2h11 x3h11 ((31 * x4h11) + x_39) (x5h11 + 1))))
def wla_Mo_signature_11 (mc ms : Nat) (Post : Ly → St → Int32 → Nat → Nat → Prop) (a0 : Nat) (a1 : Nat) (k1 : Nat) (y_h11 : Ly) (s_h11 : St) (d_h11 e_h11 : Nat) (x2h11 : Int32) (x3h11 : Int32) (x4h11 : Int32) (x5h11 : Int32) : Prop := ∃ (I : Ly → St → Nat → Nat → Int32 → Int32 → Int32 → Int32 → Prop) (μ : Ly → St → Nat → Nat → Int32 → Int32 → Int32 → Int32 → Nat), I y_h11 s_h11 d_h11 e_h11 x2h11 x3h11 x4h11 x5h11 ∧ ∀ (u1 : Ly) (u2 : St) (u3 u4 : Nat) (t0 : Int32) (t1 : Int32) (t2 : Int32) (t3 : Int32), I u1 u2 u3 u4 t0 t1 t2 t3 → wba_Mo_signature_11 mc ms Post (fun z1 z2 z3 z4 t0q t1q t2q t3q => I z1 z2 z3 z4 t0q t1q t2q t3q ∧ μ z1 z2 z3 z4 t0q t1q t2q t3q < μ u1 u2 u3 u4 t0 t1 t2 t3) a0 a1 k1 u1 u2 u3 u4 t0 t1 t2 t3
def wa_Mo_signature (mc ms : Nat) (y : Ly) (Post : Ly → St → Int32 → Nat → Nat → Prop) (σ : St) (a0 : Nat) (a1 : Nat) (k1 : Nat) (v2 : Int32) (v3 : Int32) : Prop := wla_Mo_signature_11 mc ms Post a0 a1 k1 y σ 0 0 v2 v3 ((31 * v2) + v3) 0
set_option maxHeartbeats 4000000 in
set_option maxRecDepth 100000 in
theorem ca_Mo_signature (l : Launch) (D : va_G) (g : Nat → ClassId) (ad : Nat → Nat) (mc ms : Nat) (y : Ly) (Post : Ly → St → Int32 → Nat → Nat → Prop) (σ : St) (a0 : Nat) (a1 : Nat) (k1 : Nat) (v2 : Int32) (v3 : Int32) (sz uz : Nat) (h_a0 : cl a0 = 14) (h_a1 : kd (cl a1) k1 = 2 ∧ tyx (cl a1) k1 = 0) (h : wa_Mo_signature mc ms y Post σ a0 a1 k1 v2 v3) : Met l y_Mo_signature (mw y_Mo_signature b_Mo_signature 7 (some .int)) (ra_Mo_signature mc ms) (PCu g D [] [.ref (ad a0), .ref (yP y a1 k1), .int v2, .int v3] sz uz (ws g ad y σ)) (va_Qi (fun (r : Int32) (u : Ly × St × Nat × Nat) => Post u.1 u.2.1 r u.2.2.1 u.2.2.2) (QU D (va_A (ws g ad y σ) sz) (fun u => ws g ad u.1 u.2.1) sz uz (fun u => u.2.2.1) (fun u => u.2.2.2)) (va_A (ws g ad y σ) sz)) mc ms (va_A (ws g ad y σ) sz) := by
  refine ofIu (by decide +kernel) (Nat.le_of_ble_eq_true rfl) ?_
  intro p e s m args below meth c A Q ls H locs G hsz hP hD hS hl hret
  subst hsz
  have hl : lv_has ls 7 [(0, .ref (ad a0)), (1, .ref (yP y a1 k1)), (2, .int v2), (3, .int v3)] := hl
  have hd : 0 ≤ mc ∧ 0 ≤ ms := ⟨Nat.zero_le _, Nat.zero_le _⟩
  unfold wa_Mo_signature at h
  refine lv_bipush (v := 31) G.1 G.2.1 d_Mo_signature_0 (by decide) ?_
  refine lv_iload_n G.1 G.2.1 d_Mo_signature_2 rfl (lv_at hl 2 rfl) ?_
  refine lv_imul G.1 G.2.1 d_Mo_signature_3 ?_
  refine lv_iload_n G.1 G.2.1 d_Mo_signature_4 rfl (lv_at hl 3 rfl) ?_
  refine lv_iadd G.1 G.2.1 d_Mo_signature_5 ?_
  refine lv_istore (lv' := [(4, .int ((31 * v2) + v3)), (0, .ref (ad a0)), (1, .ref (yP y a1 k1)), (2, .int v2), (3, .int v3)]) G.1 G.2.1 d_Mo_signature_6 hl (by decide) rfl (fun ls hl => ?_)
  refine lv_iconst (v := 0) G.1 G.2.1 d_Mo_signature_8 (by decide) ?_
  refine lv_istore (lv' := [(5, .int 0), (4, .int ((31 * v2) + v3)), (0, .ref (ad a0)), (1, .ref (yP y a1 k1)), (2, .int v2), (3, .int v3)]) G.1 G.2.1 d_Mo_signature_9 hl (by decide) rfl (fun ls hl => ?_)
  unfold wla_Mo_signature_11 at h
  obtain ⟨I_11, μ_11, hI_11, hB_11⟩ := h
  have L_11 : ∀ (n_11 : Nat) (y_h11 : Ly) (s_h11 : St) (d_h11 e_h11 : Nat) (x2h11 : Int32) (x3h11 : Int32) (x4h11 : Int32) (x5h11 : Int32), μ_11 y_h11 s_h11 d_h11 e_h11 x2h11 x3h11 x4h11 x5h11 < n_11 → I_11 y_h11 s_h11 d_h11 e_h11 x2h11 x3h11 x4h11 x5h11 → ∀ (H : Heap) (locs : List Loc), va_P D CL (ws g ad y_h11 s_h11) H → va_D A (ws g ad y_h11 s_h11) → va_S A s.heap H locs → ∀ ls, lv_has ls 7 [(0, .ref (ad a0)), (1, .ref (yP y_h11 a1 k1)), (2, .int x2h11), (3, .int x3h11), (4, .int x4h11), (5, .int x5h11)] → W p l e (ra_Mo_signature mc ms) s m args below meth c H locs d_h11 e_h11 Q (F0 m 11 ls []) := by
    intro n_11
    induction n_11 with
    | zero => intro y_h11 s_h11 d_h11 e_h11 x2h11 x3h11 x4h11 x5h11 hμ; exact absurd hμ (Nat.not_lt_zero _)
    | succ n_11 ih_11 =>
      intro y_h11 s_h11 d_h11 e_h11 x2h11 x3h11 x4h11 x5h11 hμ_11 hJ H locs hP hD hS ls hl
      obtain ⟨K_11, hK_11, h⟩ : ∃ K : Ly → St → Nat → Nat → Int32 → Int32 → Int32 → Int32 → Prop, (∀ z1 z2 z3 z4 (t0 : Int32) (t1 : Int32) (t2 : Int32) (t3 : Int32), K z1 z2 z3 z4 t0 t1 t2 t3 → I_11 z1 z2 z3 z4 t0 t1 t2 t3 ∧ μ_11 z1 z2 z3 z4 t0 t1 t2 t3 < μ_11 y_h11 s_h11 d_h11 e_h11 x2h11 x3h11 x4h11 x5h11) ∧ wba_Mo_signature_11 mc ms Post K a0 a1 k1 y_h11 s_h11 d_h11 e_h11 x2h11 x3h11 x4h11 x5h11 := ⟨_, fun _ _ _ _ _ _ _ _ h => h, hB_11 y_h11 s_h11 d_h11 e_h11 x2h11 x3h11 x4h11 x5h11 hJ⟩
      unfold wba_Mo_signature_11 at h
      obtain ⟨hd, h⟩ := h
      refine lv_iload G.1 G.2.1 d_Mo_signature_11 (lv_at hl 5 rfl) ?_
      refine lv_iload_n G.1 G.2.1 d_Mo_signature_13 rfl (lv_at hl 2 rfl) ?_
      refine lv_icmp_ge (tgt := 35) G.1 G.2.1 d_Mo_signature_14 (by decide) (fun c14 => ?_) (fun c14 => ?_)
      · skip
        have h := h.1 c14
        refine lv_iload G.1 G.2.1 d_Mo_signature_35 (lv_at hl 4 rfl) ?_
        refine lv_iload G.1 G.2.1 d_Mo_signature_37 (lv_at hl 4 rfl) ?_
        refine lv_bipush (v := 11) G.1 G.2.1 d_Mo_signature_39 (by decide) ?_
        refine lv_iushr G.1 G.2.1 d_Mo_signature_41 rfl ?_
        refine lv_ixor G.1 G.2.1 d_Mo_signature_42 ?_
        refine lv_sipush (v := 1023) G.1 G.2.1 d_Mo_signature_43 (by decide) ?_
        refine lv_iand G.1 G.2.1 d_Mo_signature_46 ?_
        refine lv_istore (lv' := [(5, .int ((x4h11 ^^^ ((x4h11.toUInt32 >>> ((11 : Int32).toUInt32 &&& Int32.toUInt32 31)).toInt32)) &&& 1023)), (0, .ref (ad a0)), (1, .ref (yP y_h11 a1 k1)), (2, .int x2h11), (3, .int x3h11), (4, .int x4h11)]) G.1 G.2.1 d_Mo_signature_47 hl (by decide) rfl (fun ls hl => ?_)
        refine W.eq (g2 := F0 m 49 ls []) rfl ?_
        refine lv_aload_n G.1 G.2.1 d_Mo_signature_49 rfl (lv_at hl 1 rfl) ?_
        refine ugf (v := .ref (yP y_h11 a0 34)) G hP h_a0 iMo rfl 34 (by decide) rfl q3098 rfl rfl d_Mo_signature_50 ?_
        refine lv_iload G.1 G.2.1 d_Mo_signature_53 (lv_at hl 0 rfl) ?_
        refine uiald G hP (kdp h_a0 rfl) (typ h_a0 rfl) h d_Mo_signature_55 (fun x_1 h => ?_)
        refine lv_istore (lv' := [(6, .int x_1), (5, .int ((x4h11 ^^^ ((x4h11.toUInt32 >>> ((11 : Int32).toUInt32 &&& Int32.toUInt32 31)).toInt32)) &&& 1023)), (0, .ref (ad a0)), (1, .ref (yP y_h11 a1 k1)), (2, .int x2h11), (3, .int x3h11), (4, .int x4h11)]) G.1 G.2.1 d_Mo_signature_56 hl (by decide) rfl (fun ls hl => ?_)
        unfold wla_Mo_signature_58 at h
        obtain ⟨I_58, μ_58, hI_58, hB_58⟩ := h
        have L_58 : ∀ (n_58 : Nat) (y_h58 : Ly) (s_h58 : St) (d_h58 e_h58 : Nat) (x2h58 : Int32) (x3h58 : Int32) (x5h58 : Int32) (x6h58 : Int32), μ_58 y_h58 s_h58 d_h58 e_h58 x2h58 x3h58 x5h58 x6h58 < n_58 → I_58 y_h58 s_h58 d_h58 e_h58 x2h58 x3h58 x5h58 x6h58 → ∀ (H : Heap) (locs : List Loc), va_P D CL (ws g ad y_h58 s_h58) H → va_D A (ws g ad y_h58 s_h58) → va_S A s.heap H locs → ∀ ls, lv_has ls 7 [(0, .ref (ad a0)), (1, .ref (yP y_h58 a1 k1)), (2, .int x2h58), (3, .int x3h58), (5, .int x5h58), (6, .int x6h58)] → W p l e (ra_Mo_signature mc ms) s m args below meth c H locs d_h58 e_h58 Q (F0 m 58 ls []) := by
          intro n_58
          induction n_58 with
          | zero => intro y_h58 s_h58 d_h58 e_h58 x2h58 x3h58 x5h58 x6h58 hμ; exact absurd hμ (Nat.not_lt_zero _)
          | succ n_58 ih_58 =>
            intro y_h58 s_h58 d_h58 e_h58 x2h58 x3h58 x5h58 x6h58 hμ_58 hJ H locs hP hD hS ls hl
            obtain ⟨K_58, hK_58, h⟩ : ∃ K : Ly → St → Nat → Nat → Int32 → Int32 → Int32 → Int32 → Prop, (∀ z1 z2 z3 z4 (t0 : Int32) (t1 : Int32) (t2 : Int32) (t3 : Int32), K z1 z2 z3 z4 t0 t1 t2 t3 → I_58 z1 z2 z3 z4 t0 t1 t2 t3 ∧ μ_58 z1 z2 z3 z4 t0 t1 t2 t3 < μ_58 y_h58 s_h58 d_h58 e_h58 x2h58 x3h58 x5h58 x6h58) ∧ wba_Mo_signature_58 mc ms Post K a0 a1 k1 y_h58 s_h58 d_h58 e_h58 x2h58 x3h58 x5h58 x6h58 := ⟨_, fun _ _ _ _ _ _ _ _ h => h, hB_58 y_h58 s_h58 d_h58 e_h58 x2h58 x3h58 x5h58 x6h58 hJ⟩
            unfold wba_Mo_signature_58 at h
            obtain ⟨hd, h⟩ := h
            refine lv_iload G.1 G.2.1 d_Mo_signature_58 (lv_at hl 5 rfl) ?_
            refine lv_if_le (tgt := 96) G.1 G.2.1 d_Mo_signature_60 (by decide) (fun c60 => ?_) (fun c60 => ?_)
            · skip
              have h := h.1 c60
              refine lv_aload_n G.1 G.2.1 d_Mo_signature_96 rfl (lv_at hl 0 rfl) ?_
              refine lv_aload_n G.1 G.2.1 d_Mo_signature_97 rfl (lv_at hl 0 rfl) ?_
              refine ugf (v := .ref (yP y_h58 a0 30)) G hP h_a0 iMo rfl 30 (by decide) rfl q3094 rfl rfl d_Mo_signature_98 ?_
              refine lv_aload_n G.1 G.2.1 d_Mo_signature_101 rfl (lv_at hl 0 rfl) ?_
              refine ugf (v := .int (sV s_h58 a0 36)) G hP h_a0 iMo rfl 36 (by decide) rfl q3100 rfl rfl d_Mo_signature_102 ?_
              refine lv_iconst (v := 1) G.1 G.2.1 d_Mo_signature_105 (by decide) ?_
              refine lv_iadd G.1 G.2.1 d_Mo_signature_106 ?_
              refine uroom (C := RMo) (T := TMo) (N := 131) G hP hD hS (fun ws0 q1 q t n f sz he ht hn => c_Mo_room_k l D g ws0 q1 q t n f sz he ht hn) (fun ws0 q1 q t n f sz he hn ht hf => c_Mo_room_g l D g ws0 q1 q t n f sz he hn ht hf) w9_Mo_room q2596 ⟨Nat.le_of_ble_eq_true rfl, Nat.le_of_ble_eq_true rfl⟩ (Nat.le_refl _) (Nat.le_refl _) hd (by decide) h_a0 rfl rfl iMo tMo tMo_ok nMo rfl (by decide) q3094 rfl rfl (fun _ => rfl) (fun _ => rfl) hl.1 (Nat.le_of_ble_eq_true rfl) h d_Mo_signature_107 d_Mo_signature_110 (fun y_2 s_3 d_4 e_5 H locs h hP hD hS => ?_)
              have hl := lv_sub (l' := [(0, .ref (ad a0)), (1, .ref (yP y_h58 a1 k1)), (2, .int x2h58), (3, .int x3h58), (5, .int x5h58)]) hl [0, 1, 2, 3, 4] rfl
              obtain ⟨hd, h⟩ := h
              obtain ⟨n_6, h⟩ := h
              rw [n_6] at hl
              refine lv_aload_n G.1 G.2.1 d_Mo_signature_113 rfl (lv_at hl 0 rfl) ?_
              refine W.eq (g2 := F0 m 114 ls [.ref (ad a0)]) rfl ?_
              refine lv_aload_n G.1 G.2.1 d_Mo_signature_114 rfl (lv_at hl 0 rfl) ?_
              refine ugf (v := .ref (yP y_2 a0 31)) G hP h_a0 iMo rfl 31 (by decide) rfl q3095 rfl rfl d_Mo_signature_115 ?_
              refine lv_aload_n G.1 G.2.1 d_Mo_signature_118 rfl (lv_at hl 0 rfl) ?_
              refine ugf (v := .int (sV s_3 a0 36)) G hP h_a0 iMo rfl 36 (by decide) rfl q3100 rfl rfl d_Mo_signature_119 ?_
              refine lv_iconst (v := 1) G.1 G.2.1 d_Mo_signature_122 (by decide) ?_
              refine lv_iadd G.1 G.2.1 d_Mo_signature_123 ?_
              refine uroom (C := RMo) (T := TMo) (N := 131) G hP hD hS (fun ws0 q1 q t n f sz he ht hn => c_Mo_room_k l D g ws0 q1 q t n f sz he ht hn) (fun ws0 q1 q t n f sz he hn ht hf => c_Mo_room_g l D g ws0 q1 q t n f sz he hn ht hf) w9_Mo_room q2596 ⟨Nat.le_of_ble_eq_true rfl, Nat.le_of_ble_eq_true rfl⟩ (Nat.le_refl _) (Nat.le_refl _) hd (by decide) h_a0 rfl rfl iMo tMo tMo_ok nMo rfl (by decide) q3095 rfl rfl (fun _ => rfl) (fun _ => rfl) hl.1 (Nat.le_of_ble_eq_true rfl) h d_Mo_signature_124 d_Mo_signature_127 (fun y_7 s_8 d_9 e_10 H locs h hP hD hS => ?_)
              obtain ⟨hd, h⟩ := h
              obtain ⟨n_11, h⟩ := h
              rw [n_11] at hl
              refine lv_aload_n G.1 G.2.1 d_Mo_signature_130 rfl (lv_at hl 0 rfl) ?_
              refine lv_aload_n G.1 G.2.1 d_Mo_signature_131 rfl (lv_at hl 0 rfl) ?_
              refine ugf (v := .ref (yP y_7 a0 32)) G hP h_a0 iMo rfl 32 (by decide) rfl q3096 rfl rfl d_Mo_signature_132 ?_
              refine lv_aload_n G.1 G.2.1 d_Mo_signature_135 rfl (lv_at hl 0 rfl) ?_
              refine ugf (v := .int (sV s_8 a0 36)) G hP h_a0 iMo rfl 36 (by decide) rfl q3100 rfl rfl d_Mo_signature_136 ?_
              refine W.eq (g2 := F0 m 139 ls [.int (sV s_8 a0 36), .ref (yP y_7 a0 32), .ref (ad a0)]) rfl ?_
              refine lv_iconst (v := 1) G.1 G.2.1 d_Mo_signature_139 (by decide) ?_
              refine lv_iadd G.1 G.2.1 d_Mo_signature_140 ?_
              refine uroom (C := RMo) (T := TMo) (N := 131) G hP hD hS (fun ws0 q1 q t n f sz he ht hn => c_Mo_room_k l D g ws0 q1 q t n f sz he ht hn) (fun ws0 q1 q t n f sz he hn ht hf => c_Mo_room_g l D g ws0 q1 q t n f sz he hn ht hf) w9_Mo_room q2596 ⟨Nat.le_of_ble_eq_true rfl, Nat.le_of_ble_eq_true rfl⟩ (Nat.le_refl _) (Nat.le_refl _) hd (by decide) h_a0 rfl rfl iMo tMo tMo_ok nMo rfl (by decide) q3096 rfl rfl (fun _ => rfl) (fun _ => rfl) hl.1 (Nat.le_of_ble_eq_true rfl) h d_Mo_signature_141 d_Mo_signature_144 (fun y_12 s_13 d_14 e_15 H locs h hP hD hS => ?_)
              obtain ⟨hd, h⟩ := h
              obtain ⟨n_16, h⟩ := h
              rw [n_16] at hl
              refine lv_aload_n G.1 G.2.1 d_Mo_signature_147 rfl (lv_at hl 0 rfl) ?_
              refine lv_aload_n G.1 G.2.1 d_Mo_signature_148 rfl (lv_at hl 0 rfl) ?_
              refine ugf (v := .ref (yP y_12 a0 33)) G hP h_a0 iMo rfl 33 (by decide) rfl q3097 rfl rfl d_Mo_signature_149 ?_
              refine lv_aload_n G.1 G.2.1 d_Mo_signature_152 rfl (lv_at hl 0 rfl) ?_
              refine ugf (v := .int (sV s_13 a0 36)) G hP h_a0 iMo rfl 36 (by decide) rfl q3100 rfl rfl d_Mo_signature_153 ?_
              refine lv_iconst (v := 1) G.1 G.2.1 d_Mo_signature_156 (by decide) ?_
              refine lv_iadd G.1 G.2.1 d_Mo_signature_157 ?_
              refine uroom (C := RMo) (T := TMo) (N := 131) G hP hD hS (fun ws0 q1 q t n f sz he ht hn => c_Mo_room_k l D g ws0 q1 q t n f sz he ht hn) (fun ws0 q1 q t n f sz he hn ht hf => c_Mo_room_g l D g ws0 q1 q t n f sz he hn ht hf) w9_Mo_room q2596 ⟨Nat.le_of_ble_eq_true rfl, Nat.le_of_ble_eq_true rfl⟩ (Nat.le_refl _) (Nat.le_refl _) hd (by decide) h_a0 rfl rfl iMo tMo tMo_ok nMo rfl (by decide) q3097 rfl rfl (fun _ => rfl) (fun _ => rfl) hl.1 (Nat.le_of_ble_eq_true rfl) h d_Mo_signature_158 d_Mo_signature_161 (fun y_17 s_18 d_19 e_20 H locs h hP hD hS => ?_)
              obtain ⟨hd, h⟩ := h
              obtain ⟨n_21, h⟩ := h
              rw [n_21] at hl
              refine lv_aload_n G.1 G.2.1 d_Mo_signature_164 rfl (lv_at hl 0 rfl) ?_
              refine W.eq (g2 := F0 m 165 ls [.ref (ad a0)]) rfl ?_
              refine lv_aload_n G.1 G.2.1 d_Mo_signature_165 rfl (lv_at hl 0 rfl) ?_
              refine ugf (v := .ref (yP y_17 a0 35)) G hP h_a0 iMo rfl 35 (by decide) rfl q3099 rfl rfl d_Mo_signature_166 ?_
              refine lv_aload_n G.1 G.2.1 d_Mo_signature_169 rfl (lv_at hl 0 rfl) ?_
              refine ugf (v := .int (sV s_18 a0 37)) G hP h_a0 iMo rfl 37 (by decide) rfl q3101 rfl rfl d_Mo_signature_170 ?_
              refine lv_iload_n G.1 G.2.1 d_Mo_signature_173 rfl (lv_at hl 2 rfl) ?_
              refine lv_iadd G.1 G.2.1 d_Mo_signature_174 ?_
              refine uroom (C := RMo) (T := TMo) (N := 131) G hP hD hS (fun ws0 q1 q t n f sz he ht hn => c_Mo_room_k l D g ws0 q1 q t n f sz he ht hn) (fun ws0 q1 q t n f sz he hn ht hf => c_Mo_room_g l D g ws0 q1 q t n f sz he hn ht hf) w9_Mo_room q2596 ⟨Nat.le_of_ble_eq_true rfl, Nat.le_of_ble_eq_true rfl⟩ (Nat.le_refl _) (Nat.le_refl _) hd (by decide) h_a0 rfl rfl iMo tMo tMo_ok nMo rfl (by decide) q3099 rfl rfl (fun _ => rfl) (fun _ => rfl) hl.1 (Nat.le_of_ble_eq_true rfl) h d_Mo_signature_175 d_Mo_signature_178 (fun y_22 s_23 d_24 e_25 H locs h hP hD hS => ?_)
              obtain ⟨hd, h⟩ := h
              obtain ⟨n_26, h⟩ := h
              rw [n_26] at hl
              refine lv_aload_n G.1 G.2.1 d_Mo_signature_181 rfl (lv_at hl 1 rfl) ?_
              refine lv_iconst (v := 0) G.1 G.2.1 d_Mo_signature_182 (by decide) ?_
              refine lv_aload_n G.1 G.2.1 d_Mo_signature_183 rfl (lv_at hl 0 rfl) ?_
              refine ugf (v := .ref (yP y_22 a0 35)) G hP h_a0 iMo rfl 35 (by decide) rfl q3099 rfl rfl d_Mo_signature_184 ?_
              refine lv_aload_n G.1 G.2.1 d_Mo_signature_187 rfl (lv_at hl 0 rfl) ?_
              refine W.eq (g2 := F0 m 188 ls [.ref (ad a0), .ref (yP y_22 a0 35), .int 0, .ref (yP y_22 a1 k1)]) rfl ?_
              refine ugf (v := .int (sV s_23 a0 37)) G hP h_a0 iMo rfl 37 (by decide) rfl q3101 rfl rfl d_Mo_signature_188 ?_
              refine lv_iload_n G.1 G.2.1 d_Mo_signature_191 rfl (lv_at hl 2 rfl) ?_
              refine ucpy G hP hD hS h_a1.1 h_a1.2 (kdp h_a0 rfl) (typ h_a0 rfl) rfl rfl h hl.1 q2595 q488 q487 q338 (Nat.le_of_ble_eq_true rfl) (Nat.le_of_ble_eq_true rfl) d_Mo_signature_192 (fun s_27 H locs h hP hD hS => ?_)
              refine lv_aload_n G.1 G.2.1 d_Mo_signature_195 rfl (lv_at hl 0 rfl) ?_
              refine ugf (v := .ref (yP y_22 a0 30)) G hP h_a0 iMo rfl 30 (by decide) rfl q3094 rfl rfl d_Mo_signature_196 ?_
              refine lv_aload_n G.1 G.2.1 d_Mo_signature_199 rfl (lv_at hl 0 rfl) ?_
              refine ugf (v := .int (sV s_27 a0 36)) G hP h_a0 iMo rfl 36 (by decide) rfl q3100 rfl rfl d_Mo_signature_200 ?_
              refine lv_aload_n G.1 G.2.1 d_Mo_signature_203 rfl (lv_at hl 0 rfl) ?_
              refine ugf (v := .int (sV s_27 a0 37)) G hP h_a0 iMo rfl 37 (by decide) rfl q3101 rfl rfl d_Mo_signature_204 ?_
              refine uiast G hP hD hS (kdp h_a0 rfl) (typ h_a0 rfl) h d_Mo_signature_207 (fun s_28 H locs h hP hD hS => ?_)
              refine lv_aload_n G.1 G.2.1 d_Mo_signature_208 rfl (lv_at hl 0 rfl) ?_
              refine ugf (v := .ref (yP y_22 a0 31)) G hP h_a0 iMo rfl 31 (by decide) rfl q3095 rfl rfl d_Mo_signature_209 ?_
              refine W.eq (g2 := F0 m 212 ls [.ref (yP y_22 a0 31)]) rfl ?_
              refine lv_aload_n G.1 G.2.1 d_Mo_signature_212 rfl (lv_at hl 0 rfl) ?_
              refine ugf (v := .int (sV s_28 a0 36)) G hP h_a0 iMo rfl 36 (by decide) rfl q3100 rfl rfl d_Mo_signature_213 ?_
              refine lv_iload_n G.1 G.2.1 d_Mo_signature_216 rfl (lv_at hl 2 rfl) ?_
              refine uiast G hP hD hS (kdp h_a0 rfl) (typ h_a0 rfl) h d_Mo_signature_217 (fun s_29 H locs h hP hD hS => ?_)
              refine lv_aload_n G.1 G.2.1 d_Mo_signature_218 rfl (lv_at hl 0 rfl) ?_
              refine ugf (v := .ref (yP y_22 a0 32)) G hP h_a0 iMo rfl 32 (by decide) rfl q3096 rfl rfl d_Mo_signature_219 ?_
              refine lv_aload_n G.1 G.2.1 d_Mo_signature_222 rfl (lv_at hl 0 rfl) ?_
              refine ugf (v := .int (sV s_29 a0 36)) G hP h_a0 iMo rfl 36 (by decide) rfl q3100 rfl rfl d_Mo_signature_223 ?_
              refine lv_iload_n G.1 G.2.1 d_Mo_signature_226 rfl (lv_at hl 3 rfl) ?_
              refine uiast G hP hD hS (kdp h_a0 rfl) (typ h_a0 rfl) h d_Mo_signature_227 (fun s_30 H locs h hP hD hS => ?_)
              refine lv_aload_n G.1 G.2.1 d_Mo_signature_228 rfl (lv_at hl 0 rfl) ?_
              refine ugf (v := .ref (yP y_22 a0 33)) G hP h_a0 iMo rfl 33 (by decide) rfl q3097 rfl rfl d_Mo_signature_229 ?_
              refine W.eq (g2 := F0 m 232 ls [.ref (yP y_22 a0 33)]) rfl ?_
              refine lv_aload_n G.1 G.2.1 d_Mo_signature_232 rfl (lv_at hl 0 rfl) ?_
              refine ugf (v := .int (sV s_30 a0 36)) G hP h_a0 iMo rfl 36 (by decide) rfl q3100 rfl rfl d_Mo_signature_233 ?_
              refine lv_aload_n G.1 G.2.1 d_Mo_signature_236 rfl (lv_at hl 0 rfl) ?_
              refine ugf (v := .ref (yP y_22 a0 34)) G hP h_a0 iMo rfl 34 (by decide) rfl q3098 rfl rfl d_Mo_signature_237 ?_
              refine lv_iload G.1 G.2.1 d_Mo_signature_240 (lv_at hl 4 rfl) ?_
              refine uiald G hP (kdp h_a0 rfl) (typ h_a0 rfl) h d_Mo_signature_242 (fun x_31 h => ?_)
              refine uiast G hP hD hS (kdp h_a0 rfl) (typ h_a0 rfl) h d_Mo_signature_243 (fun s_32 H locs h hP hD hS => ?_)
              refine lv_aload_n G.1 G.2.1 d_Mo_signature_244 rfl (lv_at hl 0 rfl) ?_
              refine lv_dup G.1 G.2.1 d_Mo_signature_245 rfl ?_
              refine ugf (v := .int (sV s_32 a0 37)) G hP h_a0 iMo rfl 37 (by decide) rfl q3101 rfl rfl d_Mo_signature_246 ?_
              refine lv_iload_n G.1 G.2.1 d_Mo_signature_249 rfl (lv_at hl 2 rfl) ?_
              refine lv_iadd G.1 G.2.1 d_Mo_signature_250 ?_
              refine W.eq (g2 := F0 m 251 ls [.int ((sV s_32 a0 37) + x2h58), .ref (ad a0)]) rfl ?_
              refine upf G hP hD hS h 37 putV h_a0 iMo tMo tMo_ok nMo rfl (by decide) rfl q3101 rfl rfl fV rfl rfl d_Mo_signature_251 (fun s_33 H locs h hP hD hS => ?_)
              refine lv_aload_n G.1 G.2.1 d_Mo_signature_254 rfl (lv_at hl 0 rfl) ?_
              refine lv_dup G.1 G.2.1 d_Mo_signature_255 rfl ?_
              refine ugf (v := .int (sV s_33 a0 36)) G hP h_a0 iMo rfl 36 (by decide) rfl q3100 rfl rfl d_Mo_signature_256 ?_
              refine lv_iconst (v := 1) G.1 G.2.1 d_Mo_signature_259 (by decide) ?_
              refine lv_iadd G.1 G.2.1 d_Mo_signature_260 ?_
              refine upf G hP hD hS h 36 putV h_a0 iMo tMo tMo_ok nMo rfl (by decide) rfl q3100 rfl rfl fV rfl rfl d_Mo_signature_261 (fun s_34 H locs h hP hD hS => ?_)
              refine lv_aload_n G.1 G.2.1 d_Mo_signature_264 rfl (lv_at hl 0 rfl) ?_
              refine ugf (v := .ref (yP y_22 a0 34)) G hP h_a0 iMo rfl 34 (by decide) rfl q3098 rfl rfl d_Mo_signature_265 ?_
              refine lv_iload G.1 G.2.1 d_Mo_signature_268 (lv_at hl 4 rfl) ?_
              refine lv_aload_n G.1 G.2.1 d_Mo_signature_270 rfl (lv_at hl 0 rfl) ?_
              refine ugf (v := .int (sV s_34 a0 36)) G hP h_a0 iMo rfl 36 (by decide) rfl q3100 rfl rfl d_Mo_signature_271 ?_
              refine W.eq (g2 := F0 m 274 ls [.int (sV s_34 a0 36), .int x5h58, .ref (yP y_22 a0 34)]) rfl ?_
              refine uiast G hP hD hS (kdp h_a0 rfl) (typ h_a0 rfl) h d_Mo_signature_274 (fun s_35 H locs h hP hD hS => ?_)
              refine lv_aload_n G.1 G.2.1 d_Mo_signature_275 rfl (lv_at hl 0 rfl) ?_
              refine ugf (v := .int (sV s_35 a0 36)) G hP h_a0 iMo rfl 36 (by decide) rfl q3100 rfl rfl d_Mo_signature_276 ?_
              refine lv_iconst (v := 1) G.1 G.2.1 d_Mo_signature_279 (by decide) ?_
              refine lv_isub G.1 G.2.1 d_Mo_signature_280 ?_
              exact hret _ (y_22, s_35, d_24, e_25) _ _ _ _ _ ls h hP hD hS (Nat.le_refl _) (Nat.le_refl _) hd.1 hd.2 d_Mo_signature_281
            · skip
              have h := h.2 c60
              refine lv_aload_n G.1 G.2.1 d_Mo_signature_63 rfl (lv_at hl 0 rfl) ?_
              refine lv_iload G.1 G.2.1 d_Mo_signature_64 (lv_at hl 5 rfl) ?_
              refine lv_iconst (v := 1) G.1 G.2.1 d_Mo_signature_66 (by decide) ?_
              refine lv_isub G.1 G.2.1 d_Mo_signature_67 ?_
              refine lv_aload_n G.1 G.2.1 d_Mo_signature_68 rfl (lv_at hl 1 rfl) ?_
              refine lv_iload_n G.1 G.2.1 d_Mo_signature_69 rfl (lv_at hl 2 rfl) ?_
              refine lv_iload_n G.1 G.2.1 d_Mo_signature_70 rfl (lv_at hl 3 rfl) ?_
              refine ucVi (As := [.int (x6h58 - 1), .ref (yP y_h58 a1 k1), .int x2h58, .int x3h58]) (rest := []) G hP hD hS (cu_Mo_isSignature l D g ad y_h58 _ s_h58 a0 (x6h58 - 1) a1 k1 x2h58 x3h58 H.size h_a0 ⟨h_a1.1, h_a1.2⟩ h) w9_Mo_isSignature q2627 ⟨Nat.le_of_ble_eq_true rfl, Nat.le_of_ble_eq_true rfl⟩ rfl rfl h_a0 (q := (RMo, TMo, 131)) rfl rfl hl.1 rfl (Nat.le_of_ble_eq_true rfl) rfl hd d_Mo_signature_71 (fun r_36 s_37 H locs h hP hD hS => ?_)
              refine lv_if_eq (tgt := 82) G.1 G.2.1 d_Mo_signature_74 (by decide) (fun c74 => ?_) (fun c74 => ?_)
              · skip
                have h := h.1 c74
                refine W.eq (g2 := F0 m 82 ls []) rfl ?_
                refine lv_aload_n G.1 G.2.1 d_Mo_signature_82 rfl (lv_at hl 0 rfl) ?_
                refine ugf (v := .ref (yP y_h58 a0 33)) G hP h_a0 iMo rfl 33 (by decide) rfl q3097 rfl rfl d_Mo_signature_83 ?_
                refine lv_iload G.1 G.2.1 d_Mo_signature_86 (lv_at hl 5 rfl) ?_
                refine lv_iconst (v := 1) G.1 G.2.1 d_Mo_signature_88 (by decide) ?_
                refine lv_isub G.1 G.2.1 d_Mo_signature_89 ?_
                refine uiald G hP (kdp h_a0 rfl) (typ h_a0 rfl) h d_Mo_signature_90 (fun x_38 h => ?_)
                refine lv_istore (lv' := [(6, .int x_38), (0, .ref (ad a0)), (1, .ref (yP y_h58 a1 k1)), (2, .int x2h58), (3, .int x3h58), (5, .int x5h58)]) G.1 G.2.1 d_Mo_signature_91 hl (by decide) rfl (fun ls hl => ?_)
                refine lv_goto (tgt := 58) G.1 G.2.1 d_Mo_signature_93 (by decide) ?_
                have h := hK_58 y_h58 s_37 d_h58 e_h58 x2h58 x3h58 x5h58 x_38 h
                exact ih_58 y_h58 s_37 d_h58 e_h58 x2h58 x3h58 x5h58 x_38 (Nat.lt_of_lt_of_le h.2 (Nat.le_of_lt_succ hμ_58)) h.1 H locs hP hD hS ls (lv_sub hl [1, 2, 3, 4, 5, 0] rfl)
              · skip
                have h := h.2 c74
                refine W.eq (g2 := F0 m 77 ls []) rfl ?_
                refine lv_iload G.1 G.2.1 d_Mo_signature_77 (lv_at hl 5 rfl) ?_
                refine lv_iconst (v := 1) G.1 G.2.1 d_Mo_signature_79 (by decide) ?_
                refine lv_isub G.1 G.2.1 d_Mo_signature_80 ?_
                exact hret _ (y_h58, s_37, d_h58, e_h58) _ _ _ _ _ ls h hP hD hS (Nat.le_refl _) (Nat.le_refl _) hd.1 hd.2 d_Mo_signature_81
        exact L_58 _ y_h11 s_h11 d_h11 e_h11 x2h11 x3h11 ((x4h11 ^^^ ((x4h11.toUInt32 >>> ((11 : Int32).toUInt32 &&& Int32.toUInt32 31)).toInt32)) &&& 1023) x_1 (Nat.lt_succ_self _) hI_58 H locs hP hD hS ls (lv_sub hl [2, 3, 4, 5, 1, 0] rfl)
      · skip
        have h := h.2 c14
        refine lv_bipush (v := 31) G.1 G.2.1 d_Mo_signature_17 (by decide) ?_
        refine lv_iload G.1 G.2.1 d_Mo_signature_19 (lv_at hl 4 rfl) ?_
        refine lv_imul G.1 G.2.1 d_Mo_signature_21 ?_
        refine lv_aload_n G.1 G.2.1 d_Mo_signature_22 rfl (lv_at hl 1 rfl) ?_
        refine lv_iload G.1 G.2.1 d_Mo_signature_23 (lv_at hl 5 rfl) ?_
        refine uiald G hP h_a1.1 h_a1.2 h d_Mo_signature_25 (fun x_39 h => ?_)
        refine lv_iadd G.1 G.2.1 d_Mo_signature_26 ?_
        refine lv_istore (lv' := [(4, .int ((31 * x4h11) + x_39)), (0, .ref (ad a0)), (1, .ref (yP y_h11 a1 k1)), (2, .int x2h11), (3, .int x3h11), (5, .int x5h11)]) G.1 G.2.1 d_Mo_signature_27 hl (by decide) rfl (fun ls hl => ?_)
        refine W.eq (g2 := F0 m 29 ls []) rfl ?_
        refine lv_iinc (v := x5h11 + 1) (lv' := [(5, .int (x5h11 + 1)), (4, .int ((31 * x4h11) + x_39)), (0, .ref (ad a0)), (1, .ref (yP y_h11 a1 k1)), (2, .int x2h11), (3, .int x3h11)]) G.1 G.2.1 d_Mo_signature_29 hl (k := 5) rfl rfl (by decide) rfl (fun ls hl => ?_)
        refine lv_goto (tgt := 11) G.1 G.2.1 d_Mo_signature_32 (by decide) ?_
        have h := hK_11 y_h11 s_h11 d_h11 e_h11 x2h11 x3h11 ((31 * x4h11) + x_39) (x5h11 + 1) h
        exact ih_11 y_h11 s_h11 d_h11 e_h11 x2h11 x3h11 ((31 * x4h11) + x_39) (x5h11 + 1) (Nat.lt_of_lt_of_le h.2 (Nat.le_of_lt_succ hμ_11)) h.1 H locs hP hD hS ls (lv_sub hl [2, 3, 4, 5, 1, 0] rfl)
  exact L_11 _ y σ 0 0 v2 v3 ((31 * v2) + v3) 0 (Nat.lt_succ_self _) hI_11 H locs hP hD hS ls (lv_sub hl [2, 3, 4, 5, 1, 0] rfl)
theorem q3498 : Cond.methodLink "ClassWorksModel" 107 y_Mo_isLetter ∈ lw_ok := lw_okmem (List.mem_of_getElem? (i := 3498) (by decide +kernel)) rfl
theorem q3500 : Cond.code y_Mo_isLetter b_Mo_isLetter 1 (some (.boolean)) ∈ lw_ok := lw_okmem (List.mem_of_getElem? (i := 3500) (by decide +kernel)) rfl
theorem q3499 : Cond.static y_Mo_isLetter ∈ lw_ok := lw_okmem (List.mem_of_getElem? (i := 3499) (by decide +kernel)) rfl
theorem w9_Mo_isLetter : CWv y_Mo_isLetter b_Mo_isLetter 1 (some (.boolean)) 1 ∧ Cond.static y_Mo_isLetter ∈ lw_ok := ⟨⟨q3500, q348, by decide +kernel, by decide +kernel, by decide +kernel⟩, q3499⟩
theorem q3508 : Cond.methodLink "ClassWorksModel" 118 y_Mo_number ∈ lw_ok := lw_okmem (List.mem_of_getElem? (i := 3508) (by decide +kernel)) rfl
theorem q3511 : Cond.code y_Mo_number b_Mo_number 12 (some .int) ∈ lw_ok := lw_okmem (List.mem_of_getElem? (i := 3511) (by decide +kernel)) rfl
theorem q3510 : Cond.instanceMethod y_Mo_number ∈ lw_ok := lw_okmem (List.mem_of_getElem? (i := 3510) (by decide +kernel)) rfl
theorem q181 : Cond.selects y_Mo_number.cls y_Mo_number y_Mo_number ∈ lw_ok := lw_okmem (List.mem_of_getElem? (i := 181) (by decide +kernel)) rfl
theorem w9_Mo_number : CWv y_Mo_number b_Mo_number 12 (some .int) 3 ∧ Cond.instanceMethod y_Mo_number ∈ lw_ok ∧ Cond.selects y_Mo_number.cls y_Mo_number y_Mo_number ∈ lw_ok := ⟨⟨q3511, q348, by decide +kernel, by decide +kernel, by decide +kernel⟩, q3510, q181⟩
theorem q3514 : Cond.methodLink "ClassWorksModel" 124 y_Mo_isTag ∈ lw_ok := lw_okmem (List.mem_of_getElem? (i := 3514) (by decide +kernel)) rfl
theorem q3517 : Cond.code y_Mo_isTag b_Mo_isTag 5 (some (.boolean)) ∈ lw_ok := lw_okmem (List.mem_of_getElem? (i := 3517) (by decide +kernel)) rfl
theorem q3516 : Cond.instanceMethod y_Mo_isTag ∈ lw_ok := lw_okmem (List.mem_of_getElem? (i := 3516) (by decide +kernel)) rfl
theorem q182 : Cond.selects y_Mo_isTag.cls y_Mo_isTag y_Mo_isTag ∈ lw_ok := lw_okmem (List.mem_of_getElem? (i := 182) (by decide +kernel)) rfl
theorem w9_Mo_isTag : CWv y_Mo_isTag b_Mo_isTag 5 (some (.boolean)) 4 ∧ Cond.instanceMethod y_Mo_isTag ∈ lw_ok ∧ Cond.selects y_Mo_isTag.cls y_Mo_isTag y_Mo_isTag ∈ lw_ok := ⟨⟨q3517, q348, by decide +kernel, by decide +kernel, by decide +kernel⟩, q3516, q182⟩
def y_Mo_cutLine : MethodName := ⟨"ClassWorksModel", "cutLine", "([BII)Z"⟩
abbrev b_Mo_cutLine : ByteArray := prog_14_method_12_code
theorem d_Mo_cutLine_0 : decode b_Mo_cutLine 0 = .ok (.aload_n 0, 1) := by decide +kernel
theorem d_Mo_cutLine_1 : decode b_Mo_cutLine 1 = .ok (.iconst 0, 1) := by decide +kernel
theorem d_Mo_cutLine_2 : decode b_Mo_cutLine 2 = .ok (.putfield 95, 3) := by decide +kernel
theorem d_Mo_cutLine_5 : decode b_Mo_cutLine 5 = .ok (.aload_n 0, 1) := by decide +kernel
theorem d_Mo_cutLine_6 : decode b_Mo_cutLine 6 = .ok (.iconst 0, 1) := by decide +kernel
theorem d_Mo_cutLine_7 : decode b_Mo_cutLine 7 = .ok (.putfield 104, 3) := by decide +kernel
theorem d_Mo_cutLine_10 : decode b_Mo_cutLine 10 = .ok (.iload_n 2, 1) := by decide +kernel
theorem d_Mo_cutLine_11 : decode b_Mo_cutLine 11 = .ok (.istore 4, 2) := by decide +kernel
theorem d_Mo_cutLine_13 : decode b_Mo_cutLine 13 = .ok (.iconst 1, 1) := by decide +kernel
theorem d_Mo_cutLine_14 : decode b_Mo_cutLine 14 = .ok (.istore 5, 2) := by decide +kernel
theorem d_Mo_cutLine_16 : decode b_Mo_cutLine 16 = .ok (.iload 5, 2) := by decide +kernel
theorem d_Mo_cutLine_18 : decode b_Mo_cutLine 18 = .ok (.ifCond .eq 365, 3) := by decide +kernel
theorem d_Mo_cutLine_21 : decode b_Mo_cutLine 21 = .ok (.iload 4, 2) := by decide +kernel
theorem d_Mo_cutLine_23 : decode b_Mo_cutLine 23 = .ok (.iload_n 3, 1) := by decide +kernel
theorem d_Mo_cutLine_24 : decode b_Mo_cutLine 24 = .ok (.if_icmp .ge 359, 3) := by decide +kernel
theorem d_Mo_cutLine_27 : decode b_Mo_cutLine 27 = .ok (.aload_n 1, 1) := by decide +kernel
theorem d_Mo_cutLine_28 : decode b_Mo_cutLine 28 = .ok (.iload 4, 2) := by decide +kernel
theorem d_Mo_cutLine_30 : decode b_Mo_cutLine 30 = .ok (.baload, 1) := by decide +kernel
theorem d_Mo_cutLine_31 : decode b_Mo_cutLine 31 = .ok (.bipush 35, 2) := by decide +kernel
theorem d_Mo_cutLine_33 : decode b_Mo_cutLine 33 = .ok (.if_icmp .eq 350, 3) := by decide +kernel
theorem d_Mo_cutLine_36 : decode b_Mo_cutLine 36 = .ok (.aload_n 1, 1) := by decide +kernel
theorem d_Mo_cutLine_37 : decode b_Mo_cutLine 37 = .ok (.iload 4, 2) := by decide +kernel
theorem d_Mo_cutLine_39 : decode b_Mo_cutLine 39 = .ok (.baload, 1) := by decide +kernel
theorem d_Mo_cutLine_40 : decode b_Mo_cutLine 40 = .ok (.istore 6, 2) := by decide +kernel
theorem d_Mo_cutLine_42 : decode b_Mo_cutLine 42 = .ok (.iload 4, 2) := by decide +kernel
theorem d_Mo_cutLine_44 : decode b_Mo_cutLine 44 = .ok (.iconst 1, 1) := by decide +kernel
theorem d_Mo_cutLine_45 : decode b_Mo_cutLine 45 = .ok (.iadd, 1) := by decide +kernel
theorem d_Mo_cutLine_46 : decode b_Mo_cutLine 46 = .ok (.istore 7, 2) := by decide +kernel
theorem d_Mo_cutLine_48 : decode b_Mo_cutLine 48 = .ok (.iload 6, 2) := by decide +kernel
theorem d_Mo_cutLine_50 : decode b_Mo_cutLine 50 = .ok (.invokestatic 107, 3) := by decide +kernel
theorem d_Mo_cutLine_53 : decode b_Mo_cutLine 53 = .ok (.ifCond .eq 92, 3) := by decide +kernel
theorem d_Mo_cutLine_56 : decode b_Mo_cutLine 56 = .ok (.iload 7, 2) := by decide +kernel
theorem d_Mo_cutLine_58 : decode b_Mo_cutLine 58 = .ok (.iload_n 3, 1) := by decide +kernel
theorem d_Mo_cutLine_59 : decode b_Mo_cutLine 59 = .ok (.if_icmp .ge 29, 3) := by decide +kernel
theorem d_Mo_cutLine_62 : decode b_Mo_cutLine 62 = .ok (.aload_n 1, 1) := by decide +kernel
theorem d_Mo_cutLine_63 : decode b_Mo_cutLine 63 = .ok (.iload 7, 2) := by decide +kernel
theorem d_Mo_cutLine_65 : decode b_Mo_cutLine 65 = .ok (.baload, 1) := by decide +kernel
theorem d_Mo_cutLine_66 : decode b_Mo_cutLine 66 = .ok (.invokestatic 107, 3) := by decide +kernel
theorem d_Mo_cutLine_69 : decode b_Mo_cutLine 69 = .ok (.ifCond .ne 13, 3) := by decide +kernel
theorem d_Mo_cutLine_72 : decode b_Mo_cutLine 72 = .ok (.aload_n 1, 1) := by decide +kernel
theorem d_Mo_cutLine_73 : decode b_Mo_cutLine 73 = .ok (.iload 7, 2) := by decide +kernel
theorem d_Mo_cutLine_75 : decode b_Mo_cutLine 75 = .ok (.baload, 1) := by decide +kernel
theorem d_Mo_cutLine_76 : decode b_Mo_cutLine 76 = .ok (.invokestatic 111, 3) := by decide +kernel
theorem d_Mo_cutLine_79 : decode b_Mo_cutLine 79 = .ok (.ifCond .eq 9, 3) := by decide +kernel
theorem d_Mo_cutLine_82 : decode b_Mo_cutLine 82 = .ok (.iinc 7 1, 3) := by decide +kernel
theorem d_Mo_cutLine_85 : decode b_Mo_cutLine 85 = .ok (.goto (-29), 3) := by decide +kernel
theorem d_Mo_cutLine_88 : decode b_Mo_cutLine 88 = .ok (.iload 7, 2) := by decide +kernel
theorem d_Mo_cutLine_90 : decode b_Mo_cutLine 90 = .ok (.iload 4, 2) := by decide +kernel
theorem d_Mo_cutLine_92 : decode b_Mo_cutLine 92 = .ok (.isub, 1) := by decide +kernel
theorem d_Mo_cutLine_93 : decode b_Mo_cutLine 93 = .ok (.bipush 12, 2) := by decide +kernel
theorem d_Mo_cutLine_95 : decode b_Mo_cutLine 95 = .ok (.if_icmp .gt 7, 3) := by decide +kernel
theorem d_Mo_cutLine_98 : decode b_Mo_cutLine 98 = .ok (.iconst 1, 1) := by decide +kernel
theorem d_Mo_cutLine_99 : decode b_Mo_cutLine 99 = .ok (.goto 4, 3) := by decide +kernel
theorem d_Mo_cutLine_102 : decode b_Mo_cutLine 102 = .ok (.iconst 0, 1) := by decide +kernel
theorem d_Mo_cutLine_103 : decode b_Mo_cutLine 103 = .ok (.istore 5, 2) := by decide +kernel
theorem d_Mo_cutLine_105 : decode b_Mo_cutLine 105 = .ok (.aload_n 0, 1) := by decide +kernel
theorem d_Mo_cutLine_106 : decode b_Mo_cutLine 106 = .ok (.iload 5, 2) := by decide +kernel
theorem d_Mo_cutLine_108 : decode b_Mo_cutLine 108 = .ok (.ifCond .eq 7, 3) := by decide +kernel
theorem d_Mo_cutLine_111 : decode b_Mo_cutLine 111 = .ok (.iconst 2, 1) := by decide +kernel
theorem d_Mo_cutLine_112 : decode b_Mo_cutLine 112 = .ok (.goto 4, 3) := by decide +kernel
theorem d_Mo_cutLine_115 : decode b_Mo_cutLine 115 = .ok (.iconst 1, 1) := by decide +kernel
theorem d_Mo_cutLine_116 : decode b_Mo_cutLine 116 = .ok (.iload 5, 2) := by decide +kernel
theorem d_Mo_cutLine_118 : decode b_Mo_cutLine 118 = .ok (.ifCond .eq 18, 3) := by decide +kernel
theorem d_Mo_cutLine_121 : decode b_Mo_cutLine 121 = .ok (.aload_n 0, 1) := by decide +kernel
theorem d_Mo_cutLine_122 : decode b_Mo_cutLine 122 = .ok (.aload_n 1, 1) := by decide +kernel
theorem d_Mo_cutLine_123 : decode b_Mo_cutLine 123 = .ok (.iload 4, 2) := by decide +kernel
theorem d_Mo_cutLine_125 : decode b_Mo_cutLine 125 = .ok (.iload 7, 2) := by decide +kernel
theorem d_Mo_cutLine_127 : decode b_Mo_cutLine 127 = .ok (.iload 4, 2) := by decide +kernel
theorem d_Mo_cutLine_129 : decode b_Mo_cutLine 129 = .ok (.isub, 1) := by decide +kernel
theorem d_Mo_cutLine_130 : decode b_Mo_cutLine 130 = .ok (.invokevirtual 60, 3) := by decide +kernel
theorem d_Mo_cutLine_133 : decode b_Mo_cutLine 133 = .ok (.goto 4, 3) := by decide +kernel
theorem d_Mo_cutLine_136 : decode b_Mo_cutLine 136 = .ok (.iconst 0, 1) := by decide +kernel
theorem d_Mo_cutLine_137 : decode b_Mo_cutLine 137 = .ok (.iload 4, 2) := by decide +kernel
theorem d_Mo_cutLine_139 : decode b_Mo_cutLine 139 = .ok (.invokevirtual 114, 3) := by decide +kernel
theorem d_Mo_cutLine_142 : decode b_Mo_cutLine 142 = .ok (.goto 234, 3) := by decide +kernel
theorem d_Mo_cutLine_145 : decode b_Mo_cutLine 145 = .ok (.iload 6, 2) := by decide +kernel
theorem d_Mo_cutLine_147 : decode b_Mo_cutLine 147 = .ok (.invokestatic 111, 3) := by decide +kernel
theorem d_Mo_cutLine_150 : decode b_Mo_cutLine 150 = .ok (.ifCond .ne 26, 3) := by decide +kernel
theorem d_Mo_cutLine_153 : decode b_Mo_cutLine 153 = .ok (.iload 6, 2) := by decide +kernel
theorem d_Mo_cutLine_155 : decode b_Mo_cutLine 155 = .ok (.bipush 45, 2) := by decide +kernel
theorem d_Mo_cutLine_157 : decode b_Mo_cutLine 157 = .ok (.if_icmp .ne 54, 3) := by decide +kernel
theorem d_Mo_cutLine_160 : decode b_Mo_cutLine 160 = .ok (.iload 7, 2) := by decide +kernel
theorem d_Mo_cutLine_162 : decode b_Mo_cutLine 162 = .ok (.iload_n 3, 1) := by decide +kernel
theorem d_Mo_cutLine_163 : decode b_Mo_cutLine 163 = .ok (.if_icmp .ge 48, 3) := by decide +kernel
theorem d_Mo_cutLine_166 : decode b_Mo_cutLine 166 = .ok (.aload_n 1, 1) := by decide +kernel
theorem d_Mo_cutLine_167 : decode b_Mo_cutLine 167 = .ok (.iload 7, 2) := by decide +kernel
theorem d_Mo_cutLine_169 : decode b_Mo_cutLine 169 = .ok (.baload, 1) := by decide +kernel
theorem d_Mo_cutLine_170 : decode b_Mo_cutLine 170 = .ok (.invokestatic 111, 3) := by decide +kernel
theorem d_Mo_cutLine_173 : decode b_Mo_cutLine 173 = .ok (.ifCond .eq 38, 3) := by decide +kernel
theorem d_Mo_cutLine_176 : decode b_Mo_cutLine 176 = .ok (.aload_n 0, 1) := by decide +kernel
theorem d_Mo_cutLine_177 : decode b_Mo_cutLine 177 = .ok (.aload_n 1, 1) := by decide +kernel
theorem d_Mo_cutLine_178 : decode b_Mo_cutLine 178 = .ok (.iload 4, 2) := by decide +kernel
theorem d_Mo_cutLine_180 : decode b_Mo_cutLine 180 = .ok (.iload_n 3, 1) := by decide +kernel
theorem d_Mo_cutLine_181 : decode b_Mo_cutLine 181 = .ok (.invokevirtual 118, 3) := by decide +kernel
theorem d_Mo_cutLine_184 : decode b_Mo_cutLine 184 = .ok (.istore 7, 2) := by decide +kernel
theorem d_Mo_cutLine_186 : decode b_Mo_cutLine 186 = .ok (.aload_n 0, 1) := by decide +kernel
theorem d_Mo_cutLine_187 : decode b_Mo_cutLine 187 = .ok (.getfield 92, 3) := by decide +kernel
theorem d_Mo_cutLine_190 : decode b_Mo_cutLine 190 = .ok (.aload_n 0, 1) := by decide +kernel
theorem d_Mo_cutLine_191 : decode b_Mo_cutLine 191 = .ok (.getfield 95, 3) := by decide +kernel
theorem d_Mo_cutLine_194 : decode b_Mo_cutLine 194 = .ok (.iconst 1, 1) := by decide +kernel
theorem d_Mo_cutLine_195 : decode b_Mo_cutLine 195 = .ok (.isub, 1) := by decide +kernel
theorem d_Mo_cutLine_196 : decode b_Mo_cutLine 196 = .ok (.baload, 1) := by decide +kernel
theorem d_Mo_cutLine_197 : decode b_Mo_cutLine 197 = .ok (.iconst 1, 1) := by decide +kernel
theorem d_Mo_cutLine_198 : decode b_Mo_cutLine 198 = .ok (.if_icmp .eq 7, 3) := by decide +kernel
theorem d_Mo_cutLine_201 : decode b_Mo_cutLine 201 = .ok (.iconst 1, 1) := by decide +kernel
theorem d_Mo_cutLine_202 : decode b_Mo_cutLine 202 = .ok (.goto 4, 3) := by decide +kernel
theorem d_Mo_cutLine_205 : decode b_Mo_cutLine 205 = .ok (.iconst 0, 1) := by decide +kernel
theorem d_Mo_cutLine_206 : decode b_Mo_cutLine 206 = .ok (.istore 5, 2) := by decide +kernel
theorem d_Mo_cutLine_208 : decode b_Mo_cutLine 208 = .ok (.goto 168, 3) := by decide +kernel
theorem d_Mo_cutLine_211 : decode b_Mo_cutLine 211 = .ok (.iload 6, 2) := by decide +kernel
theorem d_Mo_cutLine_213 : decode b_Mo_cutLine 213 = .ok (.bipush 58, 2) := by decide +kernel
theorem d_Mo_cutLine_215 : decode b_Mo_cutLine 215 = .ok (.if_icmp .eq 45, 3) := by decide +kernel
theorem d_Mo_cutLine_218 : decode b_Mo_cutLine 218 = .ok (.iload 6, 2) := by decide +kernel
theorem d_Mo_cutLine_220 : decode b_Mo_cutLine 220 = .ok (.bipush 44, 2) := by decide +kernel
theorem d_Mo_cutLine_222 : decode b_Mo_cutLine 222 = .ok (.if_icmp .eq 38, 3) := by decide +kernel
theorem d_Mo_cutLine_225 : decode b_Mo_cutLine 225 = .ok (.iload 6, 2) := by decide +kernel
theorem d_Mo_cutLine_227 : decode b_Mo_cutLine 227 = .ok (.bipush 59, 2) := by decide +kernel
theorem d_Mo_cutLine_229 : decode b_Mo_cutLine 229 = .ok (.if_icmp .eq 31, 3) := by decide +kernel
theorem d_Mo_cutLine_232 : decode b_Mo_cutLine 232 = .ok (.iload 6, 2) := by decide +kernel
theorem d_Mo_cutLine_234 : decode b_Mo_cutLine 234 = .ok (.bipush 40, 2) := by decide +kernel
theorem d_Mo_cutLine_236 : decode b_Mo_cutLine 236 = .ok (.if_icmp .eq 24, 3) := by decide +kernel
theorem d_Mo_cutLine_239 : decode b_Mo_cutLine 239 = .ok (.iload 6, 2) := by decide +kernel
theorem d_Mo_cutLine_241 : decode b_Mo_cutLine 241 = .ok (.bipush 41, 2) := by decide +kernel
theorem d_Mo_cutLine_243 : decode b_Mo_cutLine 243 = .ok (.if_icmp .eq 17, 3) := by decide +kernel
theorem d_Mo_cutLine_246 : decode b_Mo_cutLine 246 = .ok (.iload 6, 2) := by decide +kernel
theorem d_Mo_cutLine_248 : decode b_Mo_cutLine 248 = .ok (.bipush 46, 2) := by decide +kernel
theorem d_Mo_cutLine_250 : decode b_Mo_cutLine 250 = .ok (.if_icmp .eq 10, 3) := by decide +kernel
theorem d_Mo_cutLine_253 : decode b_Mo_cutLine 253 = .ok (.iload 6, 2) := by decide +kernel
theorem d_Mo_cutLine_255 : decode b_Mo_cutLine 255 = .ok (.bipush 61, 2) := by decide +kernel
theorem d_Mo_cutLine_257 : decode b_Mo_cutLine 257 = .ok (.if_icmp .ne 15, 3) := by decide +kernel
theorem d_Mo_cutLine_260 : decode b_Mo_cutLine 260 = .ok (.aload_n 0, 1) := by decide +kernel
theorem d_Mo_cutLine_261 : decode b_Mo_cutLine 261 = .ok (.iload 6, 2) := by decide +kernel
theorem d_Mo_cutLine_263 : decode b_Mo_cutLine 263 = .ok (.iconst 0, 1) := by decide +kernel
theorem d_Mo_cutLine_264 : decode b_Mo_cutLine 264 = .ok (.iload 4, 2) := by decide +kernel
theorem d_Mo_cutLine_266 : decode b_Mo_cutLine 266 = .ok (.invokevirtual 114, 3) := by decide +kernel
theorem d_Mo_cutLine_269 : decode b_Mo_cutLine 269 = .ok (.goto 107, 3) := by decide +kernel
theorem d_Mo_cutLine_272 : decode b_Mo_cutLine 272 = .ok (.iload 6, 2) := by decide +kernel
theorem d_Mo_cutLine_274 : decode b_Mo_cutLine 274 = .ok (.bipush 60, 2) := by decide +kernel
theorem d_Mo_cutLine_276 : decode b_Mo_cutLine 276 = .ok (.if_icmp .ne 39, 3) := by decide +kernel
theorem d_Mo_cutLine_279 : decode b_Mo_cutLine 279 = .ok (.aload_n 0, 1) := by decide +kernel
theorem d_Mo_cutLine_280 : decode b_Mo_cutLine 280 = .ok (.aload_n 0, 1) := by decide +kernel
theorem d_Mo_cutLine_281 : decode b_Mo_cutLine 281 = .ok (.getfield 121, 3) := by decide +kernel
theorem d_Mo_cutLine_284 : decode b_Mo_cutLine 284 = .ok (.aload_n 1, 1) := by decide +kernel
theorem d_Mo_cutLine_285 : decode b_Mo_cutLine 285 = .ok (.iload 4, 2) := by decide +kernel
theorem d_Mo_cutLine_287 : decode b_Mo_cutLine 287 = .ok (.iload_n 3, 1) := by decide +kernel
theorem d_Mo_cutLine_288 : decode b_Mo_cutLine 288 = .ok (.invokevirtual 124, 3) := by decide +kernel
theorem d_Mo_cutLine_291 : decode b_Mo_cutLine 291 = .ok (.ifCond .eq 24, 3) := by decide +kernel
theorem d_Mo_cutLine_294 : decode b_Mo_cutLine 294 = .ok (.aload_n 0, 1) := by decide +kernel
theorem d_Mo_cutLine_295 : decode b_Mo_cutLine 295 = .ok (.iconst 3, 1) := by decide +kernel
theorem d_Mo_cutLine_296 : decode b_Mo_cutLine 296 = .ok (.aload_n 0, 1) := by decide +kernel
theorem d_Mo_cutLine_297 : decode b_Mo_cutLine 297 = .ok (.getfield 121, 3) := by decide +kernel
theorem d_Mo_cutLine_300 : decode b_Mo_cutLine 300 = .ok (.iload 4, 2) := by decide +kernel
theorem d_Mo_cutLine_302 : decode b_Mo_cutLine 302 = .ok (.invokevirtual 114, 3) := by decide +kernel
theorem d_Mo_cutLine_305 : decode b_Mo_cutLine 305 = .ok (.iload 4, 2) := by decide +kernel
theorem d_Mo_cutLine_307 : decode b_Mo_cutLine 307 = .ok (.bipush 6, 2) := by decide +kernel
theorem d_Mo_cutLine_309 : decode b_Mo_cutLine 309 = .ok (.iadd, 1) := by decide +kernel
theorem d_Mo_cutLine_310 : decode b_Mo_cutLine 310 = .ok (.istore 7, 2) := by decide +kernel
theorem d_Mo_cutLine_312 : decode b_Mo_cutLine 312 = .ok (.goto 64, 3) := by decide +kernel
theorem d_Mo_cutLine_315 : decode b_Mo_cutLine 315 = .ok (.iload 6, 2) := by decide +kernel
theorem d_Mo_cutLine_317 : decode b_Mo_cutLine 317 = .ok (.bipush 60, 2) := by decide +kernel
theorem d_Mo_cutLine_319 : decode b_Mo_cutLine 319 = .ok (.if_icmp .ne 39, 3) := by decide +kernel
theorem d_Mo_cutLine_322 : decode b_Mo_cutLine 322 = .ok (.aload_n 0, 1) := by decide +kernel
theorem d_Mo_cutLine_323 : decode b_Mo_cutLine 323 = .ok (.aload_n 0, 1) := by decide +kernel
theorem d_Mo_cutLine_324 : decode b_Mo_cutLine 324 = .ok (.getfield 127, 3) := by decide +kernel
theorem d_Mo_cutLine_327 : decode b_Mo_cutLine 327 = .ok (.aload_n 1, 1) := by decide +kernel
theorem d_Mo_cutLine_328 : decode b_Mo_cutLine 328 = .ok (.iload 4, 2) := by decide +kernel
theorem d_Mo_cutLine_330 : decode b_Mo_cutLine 330 = .ok (.iload_n 3, 1) := by decide +kernel
theorem d_Mo_cutLine_331 : decode b_Mo_cutLine 331 = .ok (.invokevirtual 124, 3) := by decide +kernel
theorem d_Mo_cutLine_334 : decode b_Mo_cutLine 334 = .ok (.ifCond .eq 24, 3) := by decide +kernel
theorem d_Mo_cutLine_337 : decode b_Mo_cutLine 337 = .ok (.aload_n 0, 1) := by decide +kernel
theorem d_Mo_cutLine_338 : decode b_Mo_cutLine 338 = .ok (.iconst 3, 1) := by decide +kernel
theorem d_Mo_cutLine_339 : decode b_Mo_cutLine 339 = .ok (.aload_n 0, 1) := by decide +kernel
theorem d_Mo_cutLine_340 : decode b_Mo_cutLine 340 = .ok (.getfield 127, 3) := by decide +kernel
theorem d_Mo_cutLine_343 : decode b_Mo_cutLine 343 = .ok (.iload 4, 2) := by decide +kernel
theorem d_Mo_cutLine_345 : decode b_Mo_cutLine 345 = .ok (.invokevirtual 114, 3) := by decide +kernel
theorem d_Mo_cutLine_348 : decode b_Mo_cutLine 348 = .ok (.iload 4, 2) := by decide +kernel
theorem d_Mo_cutLine_350 : decode b_Mo_cutLine 350 = .ok (.bipush 7, 2) := by decide +kernel
theorem d_Mo_cutLine_352 : decode b_Mo_cutLine 352 = .ok (.iadd, 1) := by decide +kernel
theorem d_Mo_cutLine_353 : decode b_Mo_cutLine 353 = .ok (.istore 7, 2) := by decide +kernel
theorem d_Mo_cutLine_355 : decode b_Mo_cutLine 355 = .ok (.goto 21, 3) := by decide +kernel
theorem d_Mo_cutLine_358 : decode b_Mo_cutLine 358 = .ok (.iload 6, 2) := by decide +kernel
theorem d_Mo_cutLine_360 : decode b_Mo_cutLine 360 = .ok (.bipush 32, 2) := by decide +kernel
theorem d_Mo_cutLine_362 : decode b_Mo_cutLine 362 = .ok (.if_icmp .eq 14, 3) := by decide +kernel
theorem d_Mo_cutLine_365 : decode b_Mo_cutLine 365 = .ok (.aload_n 0, 1) := by decide +kernel
theorem d_Mo_cutLine_366 : decode b_Mo_cutLine 366 = .ok (.iconst 1, 1) := by decide +kernel
theorem d_Mo_cutLine_367 : decode b_Mo_cutLine 367 = .ok (.iconst 0, 1) := by decide +kernel
theorem d_Mo_cutLine_368 : decode b_Mo_cutLine 368 = .ok (.iload 4, 2) := by decide +kernel
theorem d_Mo_cutLine_370 : decode b_Mo_cutLine 370 = .ok (.invokevirtual 114, 3) := by decide +kernel
theorem d_Mo_cutLine_373 : decode b_Mo_cutLine 373 = .ok (.iconst 0, 1) := by decide +kernel
theorem d_Mo_cutLine_374 : decode b_Mo_cutLine 374 = .ok (.istore 5, 2) := by decide +kernel
theorem d_Mo_cutLine_376 : decode b_Mo_cutLine 376 = .ok (.iload 7, 2) := by decide +kernel
theorem d_Mo_cutLine_378 : decode b_Mo_cutLine 378 = .ok (.istore 4, 2) := by decide +kernel
theorem d_Mo_cutLine_380 : decode b_Mo_cutLine 380 = .ok (.goto (-364), 3) := by decide +kernel
theorem d_Mo_cutLine_383 : decode b_Mo_cutLine 383 = .ok (.aload_n 0, 1) := by decide +kernel
theorem d_Mo_cutLine_384 : decode b_Mo_cutLine 384 = .ok (.getfield 95, 3) := by decide +kernel
theorem d_Mo_cutLine_387 : decode b_Mo_cutLine 387 = .ok (.ifCond .le 7, 3) := by decide +kernel
theorem d_Mo_cutLine_390 : decode b_Mo_cutLine 390 = .ok (.iconst 1, 1) := by decide +kernel
theorem d_Mo_cutLine_391 : decode b_Mo_cutLine 391 = .ok (.goto 4, 3) := by decide +kernel
theorem d_Mo_cutLine_394 : decode b_Mo_cutLine 394 = .ok (.iconst 0, 1) := by decide +kernel
theorem d_Mo_cutLine_395 : decode b_Mo_cutLine 395 = .ok (.istore 6, 2) := by decide +kernel
theorem d_Mo_cutLine_397 : decode b_Mo_cutLine 397 = .ok (.aload_n 0, 1) := by decide +kernel
theorem d_Mo_cutLine_398 : decode b_Mo_cutLine 398 = .ok (.iconst 0, 1) := by decide +kernel
theorem d_Mo_cutLine_399 : decode b_Mo_cutLine 399 = .ok (.iconst 0, 1) := by decide +kernel
theorem d_Mo_cutLine_400 : decode b_Mo_cutLine 400 = .ok (.iload_n 3, 1) := by decide +kernel
theorem d_Mo_cutLine_401 : decode b_Mo_cutLine 401 = .ok (.invokevirtual 114, 3) := by decide +kernel
theorem d_Mo_cutLine_404 : decode b_Mo_cutLine 404 = .ok (.iload 6, 2) := by decide +kernel
theorem d_Mo_cutLine_406 : decode b_Mo_cutLine 406 = .ok (.ireturn, 1) := by decide +kernel
abbrev ra_Mo_cutLine (mc ms : Nat) : Room := { frames := 3, cells := mc, slots := ms, locals := 176 }
def wja_Mo_cutLine_395 (mc ms : Nat) (Post : Ly → St → Int32 → Nat → Nat → Prop) (a0 : Nat) (a1 : Nat) (k1 : Nat) (y_j395 : Ly) (s_j395 : St) (d_j395 e_j395 : Nat) (x3j395 : Int32) (z0j395 : Int32) : Prop := (d_j395 ≤ mc ∧ e_j395 ≤ ms) ∧ wu_Mo_addWord y_j395 (fun (s_4 : St) => (nb z0j395 ∧ Post y_j395 s_4 z0j395 d_j395 e_j395)) s_j395 a0 0 0 x3j395
def wja_Mo_cutLine_383 (mc ms : Nat) (Post : Ly → St → Int32 → Nat → Nat → Prop) (a0 : Nat) (a1 : Nat) (k1 : Nat) (y_j383 : Ly) (s_j383 : St) (d_j383 e_j383 : Nat) (x3j383 : Int32) : Prop := (d_j383 ≤ mc ∧ e_j383 ≤ ms) ∧ (((sV s_j383 a0 42) ≤ 0 → wja_Mo_cutLine_395 mc ms Post a0 a1 k1 y_j383 s_j383 d_j383 e_j383 x3j383 0) ∧ (¬ ((sV s_j383 a0 42) ≤ 0) → wja_Mo_cutLine_395 mc ms Post a0 a1 k1 y_j383 s_j383 d_j383 e_j383 x3j383 1))
def wja_Mo_cutLine_376 (mc ms : Nat) (Post : Ly → St → Int32 → Nat → Nat → Prop) (K_16 : Ly → St → Nat → Nat → Int32 → Int32 → Int32 → Prop) (a0 : Nat) (a1 : Nat) (k1 : Nat) (y_j376 : Ly) (s_j376 : St) (d_j376 e_j376 : Nat) (x3j376 : Int32) (x5j376 : Int32) (x7j376 : Int32) : Prop := (d_j376 ≤ mc ∧ e_j376 ≤ ms) ∧ K_16 y_j376 s_j376 d_j376 e_j376 x3j376 x7j376 x5j376
def wja_Mo_cutLine_206 (mc ms : Nat) (Post : Ly → St → Int32 → Nat → Nat → Prop) (K_16 : Ly → St → Nat → Nat → Int32 → Int32 → Int32 → Prop) (a0 : Nat) (a1 : Nat) (k1 : Nat) (y_j206 : Ly) (s_j206 : St) (d_j206 e_j206 : Nat) (x3j206 : Int32) (x7j206 : Int32) (z0j206 : Int32) : Prop := (d_j206 ≤ mc ∧ e_j206 ≤ ms) ∧ wja_Mo_cutLine_376 mc ms Post K_16 a0 a1 k1 y_j206 s_j206 d_j206 e_j206 x3j206 z0j206 x7j206
def wja_Mo_cutLine_176 (mc ms : Nat) (Post : Ly → St → Int32 → Nat → Nat → Prop) (K_16 : Ly → St → Nat → Nat → Int32 → Int32 → Int32 → Prop) (a0 : Nat) (a1 : Nat) (k1 : Nat) (y_j176 : Ly) (s_j176 : St) (d_j176 e_j176 : Nat) (x3j176 : Int32) (x4j176 : Int32) : Prop := (d_j176 ≤ mc ∧ e_j176 ≤ ms) ∧ wu_Mo_number y_j176 (fun (s_12 : St) (r_11 : Int32) => xA y_j176 s_12 a0 39 ((sV s_12 a0 42) - 1) (fun x_13 : Int32 => ((x_13 = 1 → wja_Mo_cutLine_206 mc ms Post K_16 a0 a1 k1 y_j176 s_12 d_j176 e_j176 x3j176 r_11 0) ∧ (¬ (x_13 = 1) → wja_Mo_cutLine_206 mc ms Post K_16 a0 a1 k1 y_j176 s_12 d_j176 e_j176 x3j176 r_11 1)))) s_j176 a0 a1 k1 x4j176 x3j176
def wja_Mo_cutLine_260 (mc ms : Nat) (Post : Ly → St → Int32 → Nat → Nat → Prop) (K_16 : Ly → St → Nat → Nat → Int32 → Int32 → Int32 → Prop) (a0 : Nat) (a1 : Nat) (k1 : Nat) (y_j260 : Ly) (s_j260 : St) (d_j260 e_j260 : Nat) (x3j260 : Int32) (x4j260 : Int32) (x5j260 : Int32) (x6j260 : Int32) (x7j260 : Int32) : Prop := (d_j260 ≤ mc ∧ e_j260 ≤ ms) ∧ wu_Mo_addWord y_j260 (fun (s_15 : St) => wja_Mo_cutLine_376 mc ms Post K_16 a0 a1 k1 y_j260 s_15 d_j260 e_j260 x3j260 x5j260 x7j260) s_j260 a0 x6j260 0 x4j260
def wja_Mo_cutLine_358 (mc ms : Nat) (Post : Ly → St → Int32 → Nat → Nat → Prop) (K_16 : Ly → St → Nat → Nat → Int32 → Int32 → Int32 → Prop) (a0 : Nat) (a1 : Nat) (k1 : Nat) (y_j358 : Ly) (s_j358 : St) (d_j358 e_j358 : Nat) (x3j358 : Int32) (x4j358 : Int32) (x5j358 : Int32) (x6j358 : Int32) (x7j358 : Int32) : Prop := (d_j358 ≤ mc ∧ e_j358 ≤ ms) ∧ ((x6j358 = 32 → wja_Mo_cutLine_376 mc ms Post K_16 a0 a1 k1 y_j358 s_j358 d_j358 e_j358 x3j358 x5j358 x7j358) ∧ (¬ (x6j358 = 32) → wu_Mo_addWord y_j358 (fun (s_17 : St) => wja_Mo_cutLine_376 mc ms Post K_16 a0 a1 k1 y_j358 s_17 d_j358 e_j358 x3j358 0 x7j358) s_j358 a0 1 0 x4j358))
def wja_Mo_cutLine_315 (mc ms : Nat) (Post : Ly → St → Int32 → Nat → Nat → Prop) (K_16 : Ly → St → Nat → Nat → Int32 → Int32 → Int32 → Prop) (a0 : Nat) (a1 : Nat) (k1 : Nat) (y_j315 : Ly) (s_j315 : St) (d_j315 e_j315 : Nat) (x3j315 : Int32) (x4j315 : Int32) (x5j315 : Int32) (x6j315 : Int32) (x7j315 : Int32) : Prop := (d_j315 ≤ mc ∧ e_j315 ≤ ms) ∧ ((¬ x6j315 = 60 → wja_Mo_cutLine_358 mc ms Post K_16 a0 a1 k1 y_j315 s_j315 d_j315 e_j315 x3j315 x4j315 x5j315 x6j315 x7j315) ∧ (x6j315 = 60 → wu_Mo_isTag y_j315 (fun (s_19 : St) (r_18 : Int32) => ((r_18 = 0 → wja_Mo_cutLine_358 mc ms Post K_16 a0 a1 k1 y_j315 s_19 d_j315 e_j315 x3j315 x4j315 x5j315 x6j315 x7j315) ∧ (¬ (r_18 = 0) → wu_Mo_addWord y_j315 (fun (s_21 : St) => wja_Mo_cutLine_376 mc ms Post K_16 a0 a1 k1 y_j315 s_21 d_j315 e_j315 x3j315 x5j315 (x4j315 + 7)) s_19 a0 3 (sV s_19 a0 7) x4j315))) s_j315 a0 (sV s_j315 a0 7) a1 k1 x4j315 x3j315))
def wja_Mo_cutLine_211 (mc ms : Nat) (Post : Ly → St → Int32 → Nat → Nat → Prop) (K_16 : Ly → St → Nat → Nat → Int32 → Int32 → Int32 → Prop) (a0 : Nat) (a1 : Nat) (k1 : Nat) (y_j211 : Ly) (s_j211 : St) (d_j211 e_j211 : Nat) (x3j211 : Int32) (x4j211 : Int32) (x5j211 : Int32) (x6j211 : Int32) (x7j211 : Int32) : Prop := (d_j211 ≤ mc ∧ e_j211 ≤ ms) ∧ ((x6j211 = 58 → wja_Mo_cutLine_260 mc ms Post K_16 a0 a1 k1 y_j211 s_j211 d_j211 e_j211 x3j211 x4j211 x5j211 x6j211 x7j211) ∧ (¬ (x6j211 = 58) → ((x6j211 = 44 → wja_Mo_cutLine_260 mc ms Post K_16 a0 a1 k1 y_j211 s_j211 d_j211 e_j211 x3j211 x4j211 x5j211 x6j211 x7j211) ∧ (¬ (x6j211 = 44) → ((x6j211 = 59 → wja_Mo_cutLine_260 mc ms Post K_16 a0 a1 k1 y_j211 s_j211 d_j211 e_j211 x3j211 x4j211 x5j211 x6j211 x7j211) ∧ (¬ (x6j211 = 59) → ((x6j211 = 40 → wja_Mo_cutLine_260 mc ms Post K_16 a0 a1 k1 y_j211 s_j211 d_j211 e_j211 x3j211 x4j211 x5j211 x6j211 x7j211) ∧ (¬ (x6j211 = 40) → ((x6j211 = 41 → wja_Mo_cutLine_260 mc ms Post K_16 a0 a1 k1 y_j211 s_j211 d_j211 e_j211 x3j211 x4j211 x5j211 x6j211 x7j211) ∧ (¬ (x6j211 = 41) → ((x6j211 = 46 → wja_Mo_cutLine_260 mc ms Post K_16 a0 a1 k1 y_j211 s_j211 d_j211 e_j211 x3j211 x4j211 x5j211 x6j211 x7j211) ∧ (¬ (x6j211 = 46) → ((¬ x6j211 = 61 → ((¬ x6j211 = 60 → wja_Mo_cutLine_315 mc ms Post K_16 a0 a1 k1 y_j211 s_j211 d_j211 e_j211 x3j211 x4j211 x5j211 x6j211 x7j211) ∧ (x6j211 = 60 → wu_Mo_isTag y_j211 (fun (s_23 : St) (r_22 : Int32) => ((r_22 = 0 → wja_Mo_cutLine_315 mc ms Post K_16 a0 a1 k1 y_j211 s_23 d_j211 e_j211 x3j211 x4j211 x5j211 x6j211 x7j211) ∧ (¬ (r_22 = 0) → wu_Mo_addWord y_j211 (fun (s_25 : St) => wja_Mo_cutLine_376 mc ms Post K_16 a0 a1 k1 y_j211 s_25 d_j211 e_j211 x3j211 x5j211 (x4j211 + 6)) s_23 a0 3 (sV s_23 a0 6) x4j211))) s_j211 a0 (sV s_j211 a0 6) a1 k1 x4j211 x3j211))) ∧ (x6j211 = 61 → wja_Mo_cutLine_260 mc ms Post K_16 a0 a1 k1 y_j211 s_j211 d_j211 e_j211 x3j211 x4j211 x5j211 x6j211 x7j211))))))))))))))
def wja_Mo_cutLine_137 (mc ms : Nat) (Post : Ly → St → Int32 → Nat → Nat → Prop) (K_16 : Ly → St → Nat → Nat → Int32 → Int32 → Int32 → Prop) (a0 : Nat) (a1 : Nat) (k1 : Nat) (y_j137 : Ly) (s_j137 : St) (d_j137 e_j137 : Nat) (x3j137 : Int32) (x4j137 : Int32) (x5j137 : Int32) (x7j137 : Int32) (z1j137 : Int32) (z2j137 : Int32) : Prop := (d_j137 ≤ mc ∧ e_j137 ≤ ms) ∧ wu_Mo_addWord y_j137 (fun (s_30 : St) => wja_Mo_cutLine_376 mc ms Post K_16 a0 a1 k1 y_j137 s_30 d_j137 e_j137 x3j137 x5j137 x7j137) s_j137 a0 z1j137 z2j137 x4j137
def wja_Mo_cutLine_116 (mc ms : Nat) (Post : Ly → St → Int32 → Nat → Nat → Prop) (K_16 : Ly → St → Nat → Nat → Int32 → Int32 → Int32 → Prop) (a0 : Nat) (a1 : Nat) (k1 : Nat) (y_j116 : Ly) (s_j116 : St) (d_j116 e_j116 : Nat) (x3j116 : Int32) (x4j116 : Int32) (x5j116 : Int32) (x7j116 : Int32) (z1j116 : Int32) : Prop := (d_j116 ≤ mc ∧ e_j116 ≤ ms) ∧ ((x5j116 = 0 → wja_Mo_cutLine_137 mc ms Post K_16 a0 a1 k1 y_j116 s_j116 d_j116 e_j116 x3j116 x4j116 x5j116 x7j116 z1j116 0) ∧ (¬ (x5j116 = 0) → ∃ mc_36 ms_37 : Nat, (d_j116 + mc_36 ≤ mc ∧ e_j116 + ms_37 ≤ ms) ∧ wa_Mo_nameIn mc_36 ms_37 y_j116 (fun (y_33 : Ly) (s_32 : St) (r_31 : Int32) (d_34 e_35 : Nat) => (d_j116 + d_34 ≤ mc ∧ e_j116 + e_35 ≤ ms) ∧ yP y_j116 a1 k1 = yP y_33 a1 k1 ∧ wja_Mo_cutLine_137 mc ms Post K_16 a0 a1 k1 y_33 s_32 (d_j116 + d_34) (e_j116 + e_35) x3j116 x4j116 x5j116 x7j116 z1j116 r_31) s_j116 a0 a1 k1 x4j116 (x7j116 - x4j116)))
def wja_Mo_cutLine_103 (mc ms : Nat) (Post : Ly → St → Int32 → Nat → Nat → Prop) (K_16 : Ly → St → Nat → Nat → Int32 → Int32 → Int32 → Prop) (a0 : Nat) (a1 : Nat) (k1 : Nat) (y_j103 : Ly) (s_j103 : St) (d_j103 e_j103 : Nat) (x3j103 : Int32) (x4j103 : Int32) (x7j103 : Int32) (z0j103 : Int32) : Prop := (d_j103 ≤ mc ∧ e_j103 ≤ ms) ∧ ((z0j103 = 0 → wja_Mo_cutLine_116 mc ms Post K_16 a0 a1 k1 y_j103 s_j103 d_j103 e_j103 x3j103 x4j103 z0j103 x7j103 1) ∧ (¬ (z0j103 = 0) → wja_Mo_cutLine_116 mc ms Post K_16 a0 a1 k1 y_j103 s_j103 d_j103 e_j103 x3j103 x4j103 z0j103 x7j103 2))
def wja_Mo_cutLine_88 (mc ms : Nat) (Post : Ly → St → Int32 → Nat → Nat → Prop) (K_16 : Ly → St → Nat → Nat → Int32 → Int32 → Int32 → Prop) (a0 : Nat) (a1 : Nat) (k1 : Nat) (y_j88 : Ly) (s_j88 : St) (d_j88 e_j88 : Nat) (x3j88 : Int32) (x4j88 : Int32) (x7j88 : Int32) : Prop := (d_j88 ≤ mc ∧ e_j88 ≤ ms) ∧ ((12 < (x7j88 - x4j88) → wja_Mo_cutLine_103 mc ms Post K_16 a0 a1 k1 y_j88 s_j88 d_j88 e_j88 x3j88 x4j88 x7j88 0) ∧ (¬ (12 < (x7j88 - x4j88)) → wja_Mo_cutLine_103 mc ms Post K_16 a0 a1 k1 y_j88 s_j88 d_j88 e_j88 x3j88 x4j88 x7j88 1))
def wja_Mo_cutLine_82 (mc ms : Nat) (Post : Ly → St → Int32 → Nat → Nat → Prop) (K_16 : Ly → St → Nat → Nat → Int32 → Int32 → Int32 → Prop) (K_56 : Ly → St → Nat → Nat → Int32 → Int32 → Int32 → Prop) (a0 : Nat) (a1 : Nat) (k1 : Nat) (y_j82 : Ly) (s_j82 : St) (d_j82 e_j82 : Nat) (x3j82 : Int32) (x4j82 : Int32) (x7j82 : Int32) : Prop := (d_j82 ≤ mc ∧ e_j82 ≤ ms) ∧ K_56 y_j82 s_j82 d_j82 e_j82 x3j82 x4j82 (x7j82 + 1)
def wba_Mo_cutLine_56 (mc ms : Nat) (Post : Ly → St → Int32 → Nat → Nat → Prop) (K_16 : Ly → St → Nat → Nat → Int32 → Int32 → Int32 → Prop) (K_56 : Ly → St → Nat → Nat → Int32 → Int32 → Int32 → Prop) (a0 : Nat) (a1 : Nat) (k1 : Nat) (y_h56 : Ly) (s_h56 : St) (d_h56 e_h56 : Nat) (x3h56 : Int32) (x4h56 : Int32) (x7h56 : Int32) : Prop := (d_h56 ≤ mc ∧ e_h56 ≤ ms) ∧ ((x3h56 ≤ x7h56 → wja_Mo_cutLine_88 mc ms Post K_16 a0 a1 k1 y_h56 s_h56 d_h56 e_h56 x3h56 x4h56 x7h56) ∧ (¬ (x3h56 ≤ x7h56) → xA y_h56 s_h56 a1 k1 x7h56 (fun x_40 : Int32 => wu_Mo_isLetter y_h56 (fun (s_42 : St) (r_41 : Int32) => ((¬ r_41 = 0 → wja_Mo_cutLine_82 mc ms Post K_16 K_56 a0 a1 k1 y_h56 s_42 d_h56 e_h56 x3h56 x4h56 x7h56) ∧ (r_41 = 0 → xA y_h56 s_42 a1 k1 x7h56 (fun x_43 : Int32 => wu_Mo_isDigit y_h56 (fun (s_45 : St) (r_44 : Int32) => ((r_44 = 0 → wja_Mo_cutLine_88 mc ms Post K_16 a0 a1 k1 y_h56 s_45 d_h56 e_h56 x3h56 x4h56 x7h56) ∧ (¬ (r_44 = 0) → wja_Mo_cutLine_82 mc ms Post K_16 K_56 a0 a1 k1 y_h56 s_45 d_h56 e_h56 x3h56 x4h56 x7h56))) s_42 x_43)))) s_h56 x_40)))
def wla_Mo_cutLine_56 (mc ms : Nat) (Post : Ly → St → Int32 → Nat → Nat → Prop) (K_16 : Ly → St → Nat → Nat → Int32 → Int32 → Int32 → Prop) (a0 : Nat) (a1 : Nat) (k1 : Nat) (y_h56 : Ly) (s_h56 : St) (d_h56 e_h56 : Nat) (x3h56 : Int32) (x4h56 : Int32) (x7h56 : Int32) : Prop := ∃ (I : Ly → St → Nat → Nat → Int32 → Int32 → Int32 → Prop) (μ : Ly → St → Nat → Nat → Int32 → Int32 → Int32 → Nat), I y_h56 s_h56 d_h56 e_h56 x3h56 x4h56 x7h56 ∧ ∀ (u1 : Ly) (u2 : St) (u3 u4 : Nat) (t0 : Int32) (t1 : Int32) (t2 : Int32), I u1 u2 u3 u4 t0 t1 t2 → wba_Mo_cutLine_56 mc ms Post K_16 (fun z1 z2 z3 z4 t0q t1q t2q => I z1 z2 z3 z4 t0q t1q t2q ∧ μ z1 z2 z3 z4 t0q t1q t2q < μ u1 u2 u3 u4 t0 t1 t2) a0 a1 k1 u1 u2 u3 u4 t0 t1 t2
def wba_Mo_cutLine_16 (mc ms : Nat) (Post : Ly → St → Int32 → Nat → Nat → Prop) (K_16 : Ly → St → Nat → Nat → Int32 → Int32 → Int32 → Prop) (a0 : Nat) (a1 : Nat) (k1 : Nat) (y_h16 : Ly) (s_h16 : St) (d_h16 e_h16 : Nat) (x3h16 : Int32) (x4h16 : Int32) (x5h16 : Int32) : Prop := (d_h16 ≤ mc ∧ e_h16 ≤ ms) ∧ ((x5h16 = 0 → wja_Mo_cutLine_383 mc ms Post a0 a1 k1 y_h16 s_h16 d_h16 e_h16 x3h16) ∧ (¬ (x5h16 = 0) → ((x3h16 ≤ x4h16 → wja_Mo_cutLine_383 mc ms Post a0 a1 k1 y_h16 s_h16 d_h16 e_h16 x3h16) ∧ (¬ (x3h16 ≤ x4h16) → xA y_h16 s_h16 a1 k1 x4h16 (fun x_5 : Int32 => ((x_5 = 35 → wja_Mo_cutLine_383 mc ms Post a0 a1 k1 y_h16 s_h16 d_h16 e_h16 x3h16) ∧ (¬ (x_5 = 35) → xA y_h16 s_h16 a1 k1 x4h16 (fun x_6 : Int32 => wu_Mo_isLetter y_h16 (fun (s_8 : St) (r_7 : Int32) => ((r_7 = 0 → wu_Mo_isDigit y_h16 (fun (s_10 : St) (r_9 : Int32) => ((¬ r_9 = 0 → wja_Mo_cutLine_176 mc ms Post K_16 a0 a1 k1 y_h16 s_10 d_h16 e_h16 x3h16 x4h16) ∧ (r_9 = 0 → ((¬ x_6 = 45 → wja_Mo_cutLine_211 mc ms Post K_16 a0 a1 k1 y_h16 s_10 d_h16 e_h16 x3h16 x4h16 x5h16 x_6 (x4h16 + 1)) ∧ (x_6 = 45 → ((x3h16 ≤ (x4h16 + 1) → wja_Mo_cutLine_211 mc ms Post K_16 a0 a1 k1 y_h16 s_10 d_h16 e_h16 x3h16 x4h16 x5h16 x_6 (x4h16 + 1)) ∧ (¬ (x3h16 ≤ (x4h16 + 1)) → xA y_h16 s_10 a1 k1 (x4h16 + 1) (fun x_26 : Int32 => wu_Mo_isDigit y_h16 (fun (s_28 : St) (r_27 : Int32) => ((r_27 = 0 → wja_Mo_cutLine_211 mc ms Post K_16 a0 a1 k1 y_h16 s_28 d_h16 e_h16 x3h16 x4h16 x5h16 x_6 (x4h16 + 1)) ∧ (¬ (r_27 = 0) → wja_Mo_cutLine_176 mc ms Post K_16 a0 a1 k1 y_h16 s_28 d_h16 e_h16 x3h16 x4h16))) s_10 x_26)))))))) s_8 x_6) ∧ (¬ (r_7 = 0) → wla_Mo_cutLine_56 mc ms Post K_16 a0 a1 k1 y_h16 s_8 d_h16 e_h16 x3h16 x4h16 (x4h16 + 1)))) s_h16 x_6))))))))
def wla_Mo_cutLine_16 (mc ms : Nat) (Post : Ly → St → Int32 → Nat → Nat → Prop) (a0 : Nat) (a1 : Nat) (k1 : Nat) (y_h16 : Ly) (s_h16 : St) (d_h16 e_h16 : Nat) (x3h16 : Int32) (x4h16 : Int32) (x5h16 : Int32) : Prop := ∃ (I : Ly → St → Nat → Nat → Int32 → Int32 → Int32 → Prop) (μ : Ly → St → Nat → Nat → Int32 → Int32 → Int32 → Nat), I y_h16 s_h16 d_h16 e_h16 x3h16 x4h16 x5h16 ∧ ∀ (u1 : Ly) (u2 : St) (u3 u4 : Nat) (t0 : Int32) (t1 : Int32) (t2 : Int32), I u1 u2 u3 u4 t0 t1 t2 → wba_Mo_cutLine_16 mc ms Post (fun z1 z2 z3 z4 t0q t1q t2q => I z1 z2 z3 z4 t0q t1q t2q ∧ μ z1 z2 z3 z4 t0q t1q t2q < μ u1 u2 u3 u4 t0 t1 t2) a0 a1 k1 u1 u2 u3 u4 t0 t1 t2
def wa_Mo_cutLine (mc ms : Nat) (y : Ly) (Post : Ly → St → Int32 → Nat → Nat → Prop) (σ : St) (a0 : Nat) (a1 : Nat) (k1 : Nat) (v2 : Int32) (v3 : Int32) : Prop := xP (uV σ a0 42 0) (fun s_1 : St => xP (uV s_1 a0 43 0) (fun s_2 : St => wla_Mo_cutLine_16 mc ms Post a0 a1 k1 y s_2 0 0 v3 v2 1))
set_option maxHeartbeats 4000000 in
set_option maxRecDepth 100000 in
theorem ca_Mo_cutLine (l : Launch) (D : va_G) (g : Nat → ClassId) (ad : Nat → Nat) (mc ms : Nat) (y : Ly) (Post : Ly → St → Int32 → Nat → Nat → Prop) (σ : St) (a0 : Nat) (a1 : Nat) (k1 : Nat) (v2 : Int32) (v3 : Int32) (sz uz : Nat) (h_a0 : cl a0 = 14) (h_a1 : kd (cl a1) k1 = 2 ∧ tyx (cl a1) k1 = 1) (h : wa_Mo_cutLine mc ms y Post σ a0 a1 k1 v2 v3) : Met l y_Mo_cutLine (mw y_Mo_cutLine b_Mo_cutLine 8 (some (.boolean))) (ra_Mo_cutLine mc ms) (PCu g D [] [.ref (ad a0), .ref (yP y a1 k1), .int v2, .int v3] sz uz (ws g ad y σ)) (va_Qi (fun (r : Int32) (u : Ly × St × Nat × Nat) => Post u.1 u.2.1 r u.2.2.1 u.2.2.2) (QU D (va_A (ws g ad y σ) sz) (fun u => ws g ad u.1 u.2.1) sz uz (fun u => u.2.2.1) (fun u => u.2.2.2)) (va_A (ws g ad y σ) sz)) mc ms (va_A (ws g ad y σ) sz) := by
  refine ofZu (by decide +kernel) (Nat.le_of_ble_eq_true rfl) ?_
  intro p e s m args below meth c A Q ls H locs G hsz hP hD hS hl hret
  subst hsz
  have hl : lv_has ls 8 [(0, .ref (ad a0)), (1, .ref (yP y a1 k1)), (2, .int v2), (3, .int v3)] := hl
  have hd : 0 ≤ mc ∧ 0 ≤ ms := ⟨Nat.zero_le _, Nat.zero_le _⟩
  unfold wa_Mo_cutLine at h
  refine lv_aload_n G.1 G.2.1 d_Mo_cutLine_0 rfl (lv_at hl 0 rfl) ?_
  refine lv_iconst (v := 0) G.1 G.2.1 d_Mo_cutLine_1 (by decide) ?_
  refine upf G hP hD hS h 42 putV h_a0 iMo tMo tMo_ok nMo rfl (by decide) rfl q3106 rfl rfl fV rfl rfl d_Mo_cutLine_2 (fun s_1 H locs h hP hD hS => ?_)
  refine lv_aload_n G.1 G.2.1 d_Mo_cutLine_5 rfl (lv_at hl 0 rfl) ?_
  refine lv_iconst (v := 0) G.1 G.2.1 d_Mo_cutLine_6 (by decide) ?_
  refine upf G hP hD hS h 43 putV h_a0 iMo tMo tMo_ok nMo rfl (by decide) rfl q3107 rfl rfl fV rfl rfl d_Mo_cutLine_7 (fun s_2 H locs h hP hD hS => ?_)
  refine lv_iload_n G.1 G.2.1 d_Mo_cutLine_10 rfl (lv_at hl 2 rfl) ?_
  refine lv_istore (lv' := [(4, .int v2), (0, .ref (ad a0)), (1, .ref (yP y a1 k1)), (2, .int v2), (3, .int v3)]) G.1 G.2.1 d_Mo_cutLine_11 hl (by decide) rfl (fun ls hl => ?_)
  refine lv_iconst (v := 1) G.1 G.2.1 d_Mo_cutLine_13 (by decide) ?_
  refine lv_istore (lv' := [(5, .int 1), (4, .int v2), (0, .ref (ad a0)), (1, .ref (yP y a1 k1)), (2, .int v2), (3, .int v3)]) G.1 G.2.1 d_Mo_cutLine_14 hl (by decide) rfl (fun ls hl => ?_)
  unfold wla_Mo_cutLine_16 at h
  obtain ⟨I_16, μ_16, hI_16, hB_16⟩ := h
  have L_16 : ∀ (n_16 : Nat) (y_h16 : Ly) (s_h16 : St) (d_h16 e_h16 : Nat) (x3h16 : Int32) (x4h16 : Int32) (x5h16 : Int32), μ_16 y_h16 s_h16 d_h16 e_h16 x3h16 x4h16 x5h16 < n_16 → I_16 y_h16 s_h16 d_h16 e_h16 x3h16 x4h16 x5h16 → ∀ (H : Heap) (locs : List Loc), va_P D CL (ws g ad y_h16 s_h16) H → va_D A (ws g ad y_h16 s_h16) → va_S A s.heap H locs → ∀ ls, lv_has ls 8 [(0, .ref (ad a0)), (1, .ref (yP y_h16 a1 k1)), (3, .int x3h16), (4, .int x4h16), (5, .int x5h16)] → W p l e (ra_Mo_cutLine mc ms) s m args below meth c H locs d_h16 e_h16 Q (F0 m 16 ls []) := by
    intro n_16
    induction n_16 with
    | zero => intro y_h16 s_h16 d_h16 e_h16 x3h16 x4h16 x5h16 hμ; exact absurd hμ (Nat.not_lt_zero _)
    | succ n_16 ih_16 =>
      intro y_h16 s_h16 d_h16 e_h16 x3h16 x4h16 x5h16 hμ_16 hJ H locs hP hD hS ls hl
      obtain ⟨K_16, hK_16, h⟩ : ∃ K : Ly → St → Nat → Nat → Int32 → Int32 → Int32 → Prop, (∀ z1 z2 z3 z4 (t0 : Int32) (t1 : Int32) (t2 : Int32), K z1 z2 z3 z4 t0 t1 t2 → I_16 z1 z2 z3 z4 t0 t1 t2 ∧ μ_16 z1 z2 z3 z4 t0 t1 t2 < μ_16 y_h16 s_h16 d_h16 e_h16 x3h16 x4h16 x5h16) ∧ wba_Mo_cutLine_16 mc ms Post K a0 a1 k1 y_h16 s_h16 d_h16 e_h16 x3h16 x4h16 x5h16 := ⟨_, fun _ _ _ _ _ _ _ h => h, hB_16 y_h16 s_h16 d_h16 e_h16 x3h16 x4h16 x5h16 hJ⟩
      unfold wba_Mo_cutLine_16 at h
      obtain ⟨hd, h⟩ := h
      refine lv_iload G.1 G.2.1 d_Mo_cutLine_16 (lv_at hl 4 rfl) ?_
      have J_383 : ∀ (y_j383 : Ly) (s_j383 : St) (d_j383 e_j383 : Nat) (x3j383 : Int32) (H : Heap) (locs : List Loc), wja_Mo_cutLine_383 mc ms Post a0 a1 k1 y_j383 s_j383 d_j383 e_j383 x3j383 → va_P D CL (ws g ad y_j383 s_j383) H → va_D A (ws g ad y_j383 s_j383) → va_S A s.heap H locs → ∀ ls, lv_has ls 8 [(0, .ref (ad a0)), (3, .int x3j383)] → W p l e (ra_Mo_cutLine mc ms) s m args below meth c H locs d_j383 e_j383 Q (F0 m 383 ls []) := by
        intro y_j383 s_j383 d_j383 e_j383 x3j383 H locs h hP hD hS ls hl
        unfold wja_Mo_cutLine_383 at h
        obtain ⟨hd, h⟩ := h
        refine lv_aload_n G.1 G.2.1 d_Mo_cutLine_383 rfl (lv_at hl 0 rfl) ?_
        refine ugf (v := .int (sV s_j383 a0 42)) G hP h_a0 iMo rfl 42 (by decide) rfl q3106 rfl rfl d_Mo_cutLine_384 ?_
        have J_395 : ∀ (y_j395 : Ly) (s_j395 : St) (d_j395 e_j395 : Nat) (x3j395 : Int32) (z0j395 : Int32) (H : Heap) (locs : List Loc), wja_Mo_cutLine_395 mc ms Post a0 a1 k1 y_j395 s_j395 d_j395 e_j395 x3j395 z0j395 → va_P D CL (ws g ad y_j395 s_j395) H → va_D A (ws g ad y_j395 s_j395) → va_S A s.heap H locs → ∀ ls, lv_has ls 8 [(0, .ref (ad a0)), (3, .int x3j395)] → W p l e (ra_Mo_cutLine mc ms) s m args below meth c H locs d_j395 e_j395 Q (F0 m 395 ls [.int z0j395]) := by
          intro y_j395 s_j395 d_j395 e_j395 x3j395 z0j395 H locs h hP hD hS ls hl
          unfold wja_Mo_cutLine_395 at h
          obtain ⟨hd, h⟩ := h
          refine lv_istore (lv' := [(6, .int z0j395), (0, .ref (ad a0)), (3, .int x3j395)]) G.1 G.2.1 d_Mo_cutLine_395 hl (by decide) rfl (fun ls hl => ?_)
          refine lv_aload_n G.1 G.2.1 d_Mo_cutLine_397 rfl (lv_at hl 1 rfl) ?_
          refine lv_iconst (v := 0) G.1 G.2.1 d_Mo_cutLine_398 (by decide) ?_
          refine lv_iconst (v := 0) G.1 G.2.1 d_Mo_cutLine_399 (by decide) ?_
          refine lv_iload_n G.1 G.2.1 d_Mo_cutLine_400 rfl (lv_at hl 2 rfl) ?_
          refine ucVv (As := [.int 0, .int 0, .int x3j395]) (rest := []) G hP hD hS (cu_Mo_addWord l D g ad y_j395 _ s_j395 a0 0 0 x3j395 H.size h_a0 h) w9_Mo_addWord q3504 ⟨Nat.le_of_ble_eq_true rfl, Nat.le_of_ble_eq_true rfl⟩ rfl rfl h_a0 (q := (RMo, TMo, 131)) rfl rfl hl.1 rfl (Nat.le_of_ble_eq_true rfl) rfl hd d_Mo_cutLine_401 (fun s_4 H locs h hP hD hS => ?_)
          refine lv_iload G.1 G.2.1 d_Mo_cutLine_404 (lv_at hl 0 rfl) ?_
          exact hret _ (y_j395, s_4, d_j395, e_j395) _ _ _ _ _ ls (nb_n h.1) h.2 hP hD hS (Nat.le_refl _) (Nat.le_refl _) hd.1 hd.2 d_Mo_cutLine_406
        refine lv_if_le (tgt := 394) G.1 G.2.1 d_Mo_cutLine_387 (by decide) (fun c387 => ?_) (fun c387 => ?_)
        · skip
          have h := h.1 c387
          refine lv_iconst (v := 0) G.1 G.2.1 d_Mo_cutLine_394 (by decide) ?_
          exact J_395 y_j383 s_j383 d_j383 e_j383 x3j383 0 H locs h hP hD hS ls (lv_sub hl [0, 1] rfl)
        · skip
          have h := h.2 c387
          refine lv_iconst (v := 1) G.1 G.2.1 d_Mo_cutLine_390 (by decide) ?_
          refine lv_goto (tgt := 395) G.1 G.2.1 d_Mo_cutLine_391 (by decide) ?_
          exact J_395 y_j383 s_j383 d_j383 e_j383 x3j383 1 H locs h hP hD hS ls (lv_sub hl [0, 1] rfl)
      refine lv_if_eq (tgt := 383) G.1 G.2.1 d_Mo_cutLine_18 (by decide) (fun c18 => ?_) (fun c18 => ?_)
      · skip
        have h := h.1 c18
        exact J_383 y_h16 s_h16 d_h16 e_h16 x3h16 H locs h hP hD hS ls (lv_sub hl [0, 2] rfl)
      · skip
        have h := h.2 c18
        refine lv_iload G.1 G.2.1 d_Mo_cutLine_21 (lv_at hl 3 rfl) ?_
        refine lv_iload_n G.1 G.2.1 d_Mo_cutLine_23 rfl (lv_at hl 2 rfl) ?_
        refine lv_icmp_ge (tgt := 383) G.1 G.2.1 d_Mo_cutLine_24 (by decide) (fun c24 => ?_) (fun c24 => ?_)
        · skip
          have h := h.1 c24
          exact J_383 y_h16 s_h16 d_h16 e_h16 x3h16 H locs h hP hD hS ls (lv_sub hl [0, 2] rfl)
        · skip
          have h := h.2 c24
          refine lv_aload_n G.1 G.2.1 d_Mo_cutLine_27 rfl (lv_at hl 1 rfl) ?_
          refine lv_iload G.1 G.2.1 d_Mo_cutLine_28 (lv_at hl 3 rfl) ?_
          refine ubald G hP h_a1.1 h_a1.2 h d_Mo_cutLine_30 (fun x_5 h => ?_)
          refine lv_bipush (v := 35) G.1 G.2.1 d_Mo_cutLine_31 (by decide) ?_
          refine lv_icmp_eq (tgt := 383) G.1 G.2.1 d_Mo_cutLine_33 (by decide) (fun c33 => ?_) (fun c33 => ?_)
          · skip
            have h := h.1 c33
            exact J_383 y_h16 s_h16 d_h16 e_h16 x3h16 H locs h hP hD hS ls (lv_sub hl [0, 2] rfl)
          · skip
            have h := h.2 c33
            refine lv_aload_n G.1 G.2.1 d_Mo_cutLine_36 rfl (lv_at hl 1 rfl) ?_
            refine W.eq (g2 := F0 m 37 ls [.ref (yP y_h16 a1 k1)]) rfl ?_
            refine lv_iload G.1 G.2.1 d_Mo_cutLine_37 (lv_at hl 3 rfl) ?_
            refine ubald G hP h_a1.1 h_a1.2 h d_Mo_cutLine_39 (fun x_6 h => ?_)
            refine lv_istore (lv' := [(6, .int x_6), (0, .ref (ad a0)), (1, .ref (yP y_h16 a1 k1)), (3, .int x3h16), (4, .int x4h16), (5, .int x5h16)]) G.1 G.2.1 d_Mo_cutLine_40 hl (by decide) rfl (fun ls hl => ?_)
            refine lv_iload G.1 G.2.1 d_Mo_cutLine_42 (lv_at hl 4 rfl) ?_
            refine lv_iconst (v := 1) G.1 G.2.1 d_Mo_cutLine_44 (by decide) ?_
            refine lv_iadd G.1 G.2.1 d_Mo_cutLine_45 ?_
            refine lv_istore (lv' := [(7, .int (x4h16 + 1)), (6, .int x_6), (0, .ref (ad a0)), (1, .ref (yP y_h16 a1 k1)), (3, .int x3h16), (4, .int x4h16), (5, .int x5h16)]) G.1 G.2.1 d_Mo_cutLine_46 hl (by decide) rfl (fun ls hl => ?_)
            refine lv_iload G.1 G.2.1 d_Mo_cutLine_48 (lv_at hl 1 rfl) ?_
            refine ucSi (As := [.int x_6]) (rest := []) G hP hD hS (cu_Mo_isLetter l D g ad y_h16 _ s_h16 x_6 H.size  h) w9_Mo_isLetter q3498 ⟨Nat.le_of_ble_eq_true rfl, Nat.le_of_ble_eq_true rfl⟩ rfl rfl hl.1 rfl (Nat.le_of_ble_eq_true rfl) rfl hd d_Mo_cutLine_50 (fun r_7 s_8 H locs h hP hD hS => ?_)
            have J_376 : ∀ (y_j376 : Ly) (s_j376 : St) (d_j376 e_j376 : Nat) (x3j376 : Int32) (x5j376 : Int32) (x7j376 : Int32) (H : Heap) (locs : List Loc), wja_Mo_cutLine_376 mc ms Post K_16 a0 a1 k1 y_j376 s_j376 d_j376 e_j376 x3j376 x5j376 x7j376 → va_P D CL (ws g ad y_j376 s_j376) H → va_D A (ws g ad y_j376 s_j376) → va_S A s.heap H locs → ∀ ls, lv_has ls 8 [(0, .ref (ad a0)), (1, .ref (yP y_j376 a1 k1)), (3, .int x3j376), (5, .int x5j376), (7, .int x7j376)] → W p l e (ra_Mo_cutLine mc ms) s m args below meth c H locs d_j376 e_j376 Q (F0 m 376 ls []) := by
              intro y_j376 s_j376 d_j376 e_j376 x3j376 x5j376 x7j376 H locs h hP hD hS ls hl
              unfold wja_Mo_cutLine_376 at h
              obtain ⟨hd, h⟩ := h
              refine lv_iload G.1 G.2.1 d_Mo_cutLine_376 (lv_at hl 4 rfl) ?_
              refine lv_istore (lv' := [(4, .int x7j376), (0, .ref (ad a0)), (1, .ref (yP y_j376 a1 k1)), (3, .int x3j376), (5, .int x5j376), (7, .int x7j376)]) G.1 G.2.1 d_Mo_cutLine_378 hl (by decide) rfl (fun ls hl => ?_)
              refine lv_goto (tgt := 16) G.1 G.2.1 d_Mo_cutLine_380 (by decide) ?_
              have h := hK_16 y_j376 s_j376 d_j376 e_j376 x3j376 x7j376 x5j376 h
              exact ih_16 y_j376 s_j376 d_j376 e_j376 x3j376 x7j376 x5j376 (Nat.lt_of_lt_of_le h.2 (Nat.le_of_lt_succ hμ_16)) h.1 H locs hP hD hS ls (lv_sub hl [1, 2, 3, 0, 4] rfl)
            refine lv_if_eq (tgt := 145) G.1 G.2.1 d_Mo_cutLine_53 (by decide) (fun c53 => ?_) (fun c53 => ?_)
            · skip
              have h := h.1 c53
              refine lv_iload G.1 G.2.1 d_Mo_cutLine_145 (lv_at hl 1 rfl) ?_
              refine ucSi (As := [.int x_6]) (rest := []) G hP hD hS (cu_Mo_isDigit l D g ad y_h16 _ s_8 x_6 H.size  h) w9_Mo_isDigit q3501 ⟨Nat.le_of_ble_eq_true rfl, Nat.le_of_ble_eq_true rfl⟩ rfl rfl hl.1 rfl (Nat.le_of_ble_eq_true rfl) rfl hd d_Mo_cutLine_147 (fun r_9 s_10 H locs h hP hD hS => ?_)
              have J_176 : ∀ (y_j176 : Ly) (s_j176 : St) (d_j176 e_j176 : Nat) (x3j176 : Int32) (x4j176 : Int32) (H : Heap) (locs : List Loc), wja_Mo_cutLine_176 mc ms Post K_16 a0 a1 k1 y_j176 s_j176 d_j176 e_j176 x3j176 x4j176 → va_P D CL (ws g ad y_j176 s_j176) H → va_D A (ws g ad y_j176 s_j176) → va_S A s.heap H locs → ∀ ls, lv_has ls 8 [(0, .ref (ad a0)), (1, .ref (yP y_j176 a1 k1)), (3, .int x3j176), (4, .int x4j176)] → W p l e (ra_Mo_cutLine mc ms) s m args below meth c H locs d_j176 e_j176 Q (F0 m 176 ls []) := by
                intro y_j176 s_j176 d_j176 e_j176 x3j176 x4j176 H locs h hP hD hS ls hl
                unfold wja_Mo_cutLine_176 at h
                obtain ⟨hd, h⟩ := h
                refine lv_aload_n G.1 G.2.1 d_Mo_cutLine_176 rfl (lv_at hl 0 rfl) ?_
                refine lv_aload_n G.1 G.2.1 d_Mo_cutLine_177 rfl (lv_at hl 1 rfl) ?_
                refine lv_iload G.1 G.2.1 d_Mo_cutLine_178 (lv_at hl 3 rfl) ?_
                refine lv_iload_n G.1 G.2.1 d_Mo_cutLine_180 rfl (lv_at hl 2 rfl) ?_
                refine ucVi (As := [.ref (yP y_j176 a1 k1), .int x4j176, .int x3j176]) (rest := []) G hP hD hS (cu_Mo_number l D g ad y_j176 _ s_j176 a0 a1 k1 x4j176 x3j176 H.size h_a0 ⟨h_a1.1, h_a1.2⟩ h) w9_Mo_number q3508 ⟨Nat.le_of_ble_eq_true rfl, Nat.le_of_ble_eq_true rfl⟩ rfl rfl h_a0 (q := (RMo, TMo, 131)) rfl rfl hl.1 rfl (Nat.le_of_ble_eq_true rfl) rfl hd d_Mo_cutLine_181 (fun r_11 s_12 H locs h hP hD hS => ?_)
                refine lv_istore (lv' := [(7, .int r_11), (0, .ref (ad a0)), (1, .ref (yP y_j176 a1 k1)), (3, .int x3j176), (4, .int x4j176)]) G.1 G.2.1 d_Mo_cutLine_184 hl (by decide) rfl (fun ls hl => ?_)
                refine lv_aload_n G.1 G.2.1 d_Mo_cutLine_186 rfl (lv_at hl 1 rfl) ?_
                refine ugf (v := .ref (yP y_j176 a0 39)) G hP h_a0 iMo rfl 39 (by decide) rfl q3103 rfl rfl d_Mo_cutLine_187 ?_
                refine lv_aload_n G.1 G.2.1 d_Mo_cutLine_190 rfl (lv_at hl 1 rfl) ?_
                refine ugf (v := .int (sV s_12 a0 42)) G hP h_a0 iMo rfl 42 (by decide) rfl q3106 rfl rfl d_Mo_cutLine_191 ?_
                refine lv_iconst (v := 1) G.1 G.2.1 d_Mo_cutLine_194 (by decide) ?_
                refine W.eq (g2 := F0 m 195 ls [.int 1, .int (sV s_12 a0 42), .ref (yP y_j176 a0 39)]) rfl ?_
                refine lv_isub G.1 G.2.1 d_Mo_cutLine_195 ?_
                refine ubald G hP (kdp h_a0 rfl) (typ h_a0 rfl) h d_Mo_cutLine_196 (fun x_13 h => ?_)
                refine lv_iconst (v := 1) G.1 G.2.1 d_Mo_cutLine_197 (by decide) ?_
                have J_206 : ∀ (y_j206 : Ly) (s_j206 : St) (d_j206 e_j206 : Nat) (x3j206 : Int32) (x7j206 : Int32) (z0j206 : Int32) (H : Heap) (locs : List Loc), wja_Mo_cutLine_206 mc ms Post K_16 a0 a1 k1 y_j206 s_j206 d_j206 e_j206 x3j206 x7j206 z0j206 → va_P D CL (ws g ad y_j206 s_j206) H → va_D A (ws g ad y_j206 s_j206) → va_S A s.heap H locs → ∀ ls, lv_has ls 8 [(0, .ref (ad a0)), (1, .ref (yP y_j206 a1 k1)), (3, .int x3j206), (7, .int x7j206)] → W p l e (ra_Mo_cutLine mc ms) s m args below meth c H locs d_j206 e_j206 Q (F0 m 206 ls [.int z0j206]) := by
                  intro y_j206 s_j206 d_j206 e_j206 x3j206 x7j206 z0j206 H locs h hP hD hS ls hl
                  unfold wja_Mo_cutLine_206 at h
                  obtain ⟨hd, h⟩ := h
                  refine lv_istore (lv' := [(5, .int z0j206), (0, .ref (ad a0)), (1, .ref (yP y_j206 a1 k1)), (3, .int x3j206), (7, .int x7j206)]) G.1 G.2.1 d_Mo_cutLine_206 hl (by decide) rfl (fun ls hl => ?_)
                  refine lv_goto (tgt := 376) G.1 G.2.1 d_Mo_cutLine_208 (by decide) ?_
                  exact J_376 y_j206 s_j206 d_j206 e_j206 x3j206 z0j206 x7j206 H locs h hP hD hS ls (lv_sub hl [1, 2, 3, 0, 4] rfl)
                refine lv_icmp_eq (tgt := 205) G.1 G.2.1 d_Mo_cutLine_198 (by decide) (fun c198 => ?_) (fun c198 => ?_)
                · skip
                  have h := h.1 c198
                  refine lv_iconst (v := 0) G.1 G.2.1 d_Mo_cutLine_205 (by decide) ?_
                  exact J_206 y_j176 s_12 d_j176 e_j176 x3j176 r_11 0 H locs h hP hD hS ls (lv_sub hl [1, 2, 3, 0] rfl)
                · skip
                  have h := h.2 c198
                  refine lv_iconst (v := 1) G.1 G.2.1 d_Mo_cutLine_201 (by decide) ?_
                  refine lv_goto (tgt := 206) G.1 G.2.1 d_Mo_cutLine_202 (by decide) ?_
                  exact J_206 y_j176 s_12 d_j176 e_j176 x3j176 r_11 1 H locs h hP hD hS ls (lv_sub hl [1, 2, 3, 0] rfl)
              refine W.eq (g2 := F0 m 150 ls [.int r_9]) rfl ?_
              refine lv_if_ne (tgt := 176) G.1 G.2.1 d_Mo_cutLine_150 (by decide) (fun c150 => ?_) (fun c150 => ?_)
              · skip
                have h := h.1 c150
                exact J_176 y_h16 s_10 d_h16 e_h16 x3h16 x4h16 H locs h hP hD hS ls (lv_sub hl [2, 3, 4, 5] rfl)
              · skip
                have h := h.2 c150
                refine lv_iload G.1 G.2.1 d_Mo_cutLine_153 (lv_at hl 1 rfl) ?_
                refine lv_bipush (v := 45) G.1 G.2.1 d_Mo_cutLine_155 (by decide) ?_
                have J_211 : ∀ (y_j211 : Ly) (s_j211 : St) (d_j211 e_j211 : Nat) (x3j211 : Int32) (x4j211 : Int32) (x5j211 : Int32) (x6j211 : Int32) (x7j211 : Int32) (H : Heap) (locs : List Loc), wja_Mo_cutLine_211 mc ms Post K_16 a0 a1 k1 y_j211 s_j211 d_j211 e_j211 x3j211 x4j211 x5j211 x6j211 x7j211 → va_P D CL (ws g ad y_j211 s_j211) H → va_D A (ws g ad y_j211 s_j211) → va_S A s.heap H locs → ∀ ls, lv_has ls 8 [(0, .ref (ad a0)), (1, .ref (yP y_j211 a1 k1)), (3, .int x3j211), (4, .int x4j211), (5, .int x5j211), (6, .int x6j211), (7, .int x7j211)] → W p l e (ra_Mo_cutLine mc ms) s m args below meth c H locs d_j211 e_j211 Q (F0 m 211 ls []) := by
                  intro y_j211 s_j211 d_j211 e_j211 x3j211 x4j211 x5j211 x6j211 x7j211 H locs h hP hD hS ls hl
                  unfold wja_Mo_cutLine_211 at h
                  obtain ⟨hd, h⟩ := h
                  refine lv_iload G.1 G.2.1 d_Mo_cutLine_211 (lv_at hl 5 rfl) ?_
                  refine lv_bipush (v := 58) G.1 G.2.1 d_Mo_cutLine_213 (by decide) ?_
                  have J_260 : ∀ (y_j260 : Ly) (s_j260 : St) (d_j260 e_j260 : Nat) (x3j260 : Int32) (x4j260 : Int32) (x5j260 : Int32) (x6j260 : Int32) (x7j260 : Int32) (H : Heap) (locs : List Loc), wja_Mo_cutLine_260 mc ms Post K_16 a0 a1 k1 y_j260 s_j260 d_j260 e_j260 x3j260 x4j260 x5j260 x6j260 x7j260 → va_P D CL (ws g ad y_j260 s_j260) H → va_D A (ws g ad y_j260 s_j260) → va_S A s.heap H locs → ∀ ls, lv_has ls 8 [(0, .ref (ad a0)), (1, .ref (yP y_j260 a1 k1)), (3, .int x3j260), (4, .int x4j260), (5, .int x5j260), (6, .int x6j260), (7, .int x7j260)] → W p l e (ra_Mo_cutLine mc ms) s m args below meth c H locs d_j260 e_j260 Q (F0 m 260 ls []) := by
                    intro y_j260 s_j260 d_j260 e_j260 x3j260 x4j260 x5j260 x6j260 x7j260 H locs h hP hD hS ls hl
                    unfold wja_Mo_cutLine_260 at h
                    obtain ⟨hd, h⟩ := h
                    refine lv_aload_n G.1 G.2.1 d_Mo_cutLine_260 rfl (lv_at hl 0 rfl) ?_
                    refine lv_iload G.1 G.2.1 d_Mo_cutLine_261 (lv_at hl 5 rfl) ?_
                    refine lv_iconst (v := 0) G.1 G.2.1 d_Mo_cutLine_263 (by decide) ?_
                    refine lv_iload G.1 G.2.1 d_Mo_cutLine_264 (lv_at hl 3 rfl) ?_
                    refine ucVv (As := [.int x6j260, .int 0, .int x4j260]) (rest := []) G hP hD hS (cu_Mo_addWord l D g ad y_j260 _ s_j260 a0 x6j260 0 x4j260 H.size h_a0 h) w9_Mo_addWord q3504 ⟨Nat.le_of_ble_eq_true rfl, Nat.le_of_ble_eq_true rfl⟩ rfl rfl h_a0 (q := (RMo, TMo, 131)) rfl rfl hl.1 rfl (Nat.le_of_ble_eq_true rfl) rfl hd d_Mo_cutLine_266 (fun s_15 H locs h hP hD hS => ?_)
                    refine lv_goto (tgt := 376) G.1 G.2.1 d_Mo_cutLine_269 (by decide) ?_
                    exact J_376 y_j260 s_15 d_j260 e_j260 x3j260 x5j260 x7j260 H locs h hP hD hS ls (lv_sub hl [0, 1, 2, 4, 6] rfl)
                  refine lv_icmp_eq (tgt := 260) G.1 G.2.1 d_Mo_cutLine_215 (by decide) (fun c215 => ?_) (fun c215 => ?_)
                  · skip
                    have h := h.1 c215
                    exact J_260 y_j211 s_j211 d_j211 e_j211 x3j211 x4j211 x5j211 x6j211 x7j211 H locs h hP hD hS ls (lv_sub hl [0, 1, 2, 3, 4, 5, 6] rfl)
                  · skip
                    have h := h.2 c215
                    refine lv_iload G.1 G.2.1 d_Mo_cutLine_218 (lv_at hl 5 rfl) ?_
                    refine lv_bipush (v := 44) G.1 G.2.1 d_Mo_cutLine_220 (by decide) ?_
                    refine lv_icmp_eq (tgt := 260) G.1 G.2.1 d_Mo_cutLine_222 (by decide) (fun c222 => ?_) (fun c222 => ?_)
                    · skip
                      have h := h.1 c222
                      exact J_260 y_j211 s_j211 d_j211 e_j211 x3j211 x4j211 x5j211 x6j211 x7j211 H locs h hP hD hS ls (lv_sub hl [0, 1, 2, 3, 4, 5, 6] rfl)
                    · skip
                      have h := h.2 c222
                      refine lv_iload G.1 G.2.1 d_Mo_cutLine_225 (lv_at hl 5 rfl) ?_
                      refine lv_bipush (v := 59) G.1 G.2.1 d_Mo_cutLine_227 (by decide) ?_
                      refine lv_icmp_eq (tgt := 260) G.1 G.2.1 d_Mo_cutLine_229 (by decide) (fun c229 => ?_) (fun c229 => ?_)
                      · skip
                        have h := h.1 c229
                        exact J_260 y_j211 s_j211 d_j211 e_j211 x3j211 x4j211 x5j211 x6j211 x7j211 H locs h hP hD hS ls (lv_sub hl [0, 1, 2, 3, 4, 5, 6] rfl)
                      · skip
                        have h := h.2 c229
                        refine lv_iload G.1 G.2.1 d_Mo_cutLine_232 (lv_at hl 5 rfl) ?_
                        refine lv_bipush (v := 40) G.1 G.2.1 d_Mo_cutLine_234 (by decide) ?_
                        refine W.eq (g2 := F0 m 236 ls [.int 40, .int x6j211]) rfl ?_
                        refine lv_icmp_eq (tgt := 260) G.1 G.2.1 d_Mo_cutLine_236 (by decide) (fun c236 => ?_) (fun c236 => ?_)
                        · skip
                          have h := h.1 c236
                          exact J_260 y_j211 s_j211 d_j211 e_j211 x3j211 x4j211 x5j211 x6j211 x7j211 H locs h hP hD hS ls (lv_sub hl [0, 1, 2, 3, 4, 5, 6] rfl)
                        · skip
                          have h := h.2 c236
                          refine lv_iload G.1 G.2.1 d_Mo_cutLine_239 (lv_at hl 5 rfl) ?_
                          refine lv_bipush (v := 41) G.1 G.2.1 d_Mo_cutLine_241 (by decide) ?_
                          refine lv_icmp_eq (tgt := 260) G.1 G.2.1 d_Mo_cutLine_243 (by decide) (fun c243 => ?_) (fun c243 => ?_)
                          · skip
                            have h := h.1 c243
                            exact J_260 y_j211 s_j211 d_j211 e_j211 x3j211 x4j211 x5j211 x6j211 x7j211 H locs h hP hD hS ls (lv_sub hl [0, 1, 2, 3, 4, 5, 6] rfl)
                          · skip
                            have h := h.2 c243
                            refine lv_iload G.1 G.2.1 d_Mo_cutLine_246 (lv_at hl 5 rfl) ?_
                            refine lv_bipush (v := 46) G.1 G.2.1 d_Mo_cutLine_248 (by decide) ?_
                            refine lv_icmp_eq (tgt := 260) G.1 G.2.1 d_Mo_cutLine_250 (by decide) (fun c250 => ?_) (fun c250 => ?_)
                            · skip
                              have h := h.1 c250
                              exact J_260 y_j211 s_j211 d_j211 e_j211 x3j211 x4j211 x5j211 x6j211 x7j211 H locs h hP hD hS ls (lv_sub hl [0, 1, 2, 3, 4, 5, 6] rfl)
                            · skip
                              have h := h.2 c250
                              refine lv_iload G.1 G.2.1 d_Mo_cutLine_253 (lv_at hl 5 rfl) ?_
                              refine lv_bipush (v := 61) G.1 G.2.1 d_Mo_cutLine_255 (by decide) ?_
                              refine lv_icmp_ne (tgt := 272) G.1 G.2.1 d_Mo_cutLine_257 (by decide) (fun c257 => ?_) (fun c257 => ?_)
                              · skip
                                have h := h.1 c257
                                refine lv_iload G.1 G.2.1 d_Mo_cutLine_272 (lv_at hl 5 rfl) ?_
                                refine lv_bipush (v := 60) G.1 G.2.1 d_Mo_cutLine_274 (by decide) ?_
                                have J_315 : ∀ (y_j315 : Ly) (s_j315 : St) (d_j315 e_j315 : Nat) (x3j315 : Int32) (x4j315 : Int32) (x5j315 : Int32) (x6j315 : Int32) (x7j315 : Int32) (H : Heap) (locs : List Loc), wja_Mo_cutLine_315 mc ms Post K_16 a0 a1 k1 y_j315 s_j315 d_j315 e_j315 x3j315 x4j315 x5j315 x6j315 x7j315 → va_P D CL (ws g ad y_j315 s_j315) H → va_D A (ws g ad y_j315 s_j315) → va_S A s.heap H locs → ∀ ls, lv_has ls 8 [(0, .ref (ad a0)), (1, .ref (yP y_j315 a1 k1)), (3, .int x3j315), (4, .int x4j315), (5, .int x5j315), (6, .int x6j315), (7, .int x7j315)] → W p l e (ra_Mo_cutLine mc ms) s m args below meth c H locs d_j315 e_j315 Q (F0 m 315 ls []) := by
                                  intro y_j315 s_j315 d_j315 e_j315 x3j315 x4j315 x5j315 x6j315 x7j315 H locs h hP hD hS ls hl
                                  unfold wja_Mo_cutLine_315 at h
                                  obtain ⟨hd, h⟩ := h
                                  refine lv_iload G.1 G.2.1 d_Mo_cutLine_315 (lv_at hl 5 rfl) ?_
                                  refine lv_bipush (v := 60) G.1 G.2.1 d_Mo_cutLine_317 (by decide) ?_
                                  have J_358 : ∀ (y_j358 : Ly) (s_j358 : St) (d_j358 e_j358 : Nat) (x3j358 : Int32) (x4j358 : Int32) (x5j358 : Int32) (x6j358 : Int32) (x7j358 : Int32) (H : Heap) (locs : List Loc), wja_Mo_cutLine_358 mc ms Post K_16 a0 a1 k1 y_j358 s_j358 d_j358 e_j358 x3j358 x4j358 x5j358 x6j358 x7j358 → va_P D CL (ws g ad y_j358 s_j358) H → va_D A (ws g ad y_j358 s_j358) → va_S A s.heap H locs → ∀ ls, lv_has ls 8 [(0, .ref (ad a0)), (1, .ref (yP y_j358 a1 k1)), (3, .int x3j358), (4, .int x4j358), (5, .int x5j358), (6, .int x6j358), (7, .int x7j358)] → W p l e (ra_Mo_cutLine mc ms) s m args below meth c H locs d_j358 e_j358 Q (F0 m 358 ls []) := by
                                    intro y_j358 s_j358 d_j358 e_j358 x3j358 x4j358 x5j358 x6j358 x7j358 H locs h hP hD hS ls hl
                                    unfold wja_Mo_cutLine_358 at h
                                    obtain ⟨hd, h⟩ := h
                                    refine lv_iload G.1 G.2.1 d_Mo_cutLine_358 (lv_at hl 5 rfl) ?_
                                    refine lv_bipush (v := 32) G.1 G.2.1 d_Mo_cutLine_360 (by decide) ?_
                                    refine lv_icmp_eq (tgt := 376) G.1 G.2.1 d_Mo_cutLine_362 (by decide) (fun c362 => ?_) (fun c362 => ?_)
                                    · skip
                                      have h := h.1 c362
                                      exact J_376 y_j358 s_j358 d_j358 e_j358 x3j358 x5j358 x7j358 H locs h hP hD hS ls (lv_sub hl [0, 1, 2, 4, 6] rfl)
                                    · skip
                                      have h := h.2 c362
                                      refine lv_aload_n G.1 G.2.1 d_Mo_cutLine_365 rfl (lv_at hl 0 rfl) ?_
                                      refine lv_iconst (v := 1) G.1 G.2.1 d_Mo_cutLine_366 (by decide) ?_
                                      refine lv_iconst (v := 0) G.1 G.2.1 d_Mo_cutLine_367 (by decide) ?_
                                      refine lv_iload G.1 G.2.1 d_Mo_cutLine_368 (lv_at hl 3 rfl) ?_
                                      refine ucVv (As := [.int 1, .int 0, .int x4j358]) (rest := []) G hP hD hS (cu_Mo_addWord l D g ad y_j358 _ s_j358 a0 1 0 x4j358 H.size h_a0 h) w9_Mo_addWord q3504 ⟨Nat.le_of_ble_eq_true rfl, Nat.le_of_ble_eq_true rfl⟩ rfl rfl h_a0 (q := (RMo, TMo, 131)) rfl rfl hl.1 rfl (Nat.le_of_ble_eq_true rfl) rfl hd d_Mo_cutLine_370 (fun s_17 H locs h hP hD hS => ?_)
                                      refine lv_iconst (v := 0) G.1 G.2.1 d_Mo_cutLine_373 (by decide) ?_
                                      refine lv_istore (lv' := [(5, .int 0), (0, .ref (ad a0)), (1, .ref (yP y_j358 a1 k1)), (3, .int x3j358), (4, .int x4j358), (6, .int x6j358), (7, .int x7j358)]) G.1 G.2.1 d_Mo_cutLine_374 hl (by decide) rfl (fun ls hl => ?_)
                                      exact J_376 y_j358 s_17 d_j358 e_j358 x3j358 0 x7j358 H locs h hP hD hS ls (lv_sub hl [1, 2, 3, 0, 6] rfl)
                                  refine lv_icmp_ne (tgt := 358) G.1 G.2.1 d_Mo_cutLine_319 (by decide) (fun c319 => ?_) (fun c319 => ?_)
                                  · skip
                                    have h := h.1 c319
                                    exact J_358 y_j315 s_j315 d_j315 e_j315 x3j315 x4j315 x5j315 x6j315 x7j315 H locs h hP hD hS ls (lv_sub hl [0, 1, 2, 3, 4, 5, 6] rfl)
                                  · skip
                                    have h := h.2 c319
                                    refine lv_aload_n G.1 G.2.1 d_Mo_cutLine_322 rfl (lv_at hl 0 rfl) ?_
                                    refine lv_aload_n G.1 G.2.1 d_Mo_cutLine_323 rfl (lv_at hl 0 rfl) ?_
                                    refine ugf (v := .int (sV s_j315 a0 7)) G hP h_a0 iMo rfl 7 (by decide) rfl q3071 rfl rfl d_Mo_cutLine_324 ?_
                                    refine lv_aload_n G.1 G.2.1 d_Mo_cutLine_327 rfl (lv_at hl 1 rfl) ?_
                                    refine lv_iload G.1 G.2.1 d_Mo_cutLine_328 (lv_at hl 3 rfl) ?_
                                    refine lv_iload_n G.1 G.2.1 d_Mo_cutLine_330 rfl (lv_at hl 2 rfl) ?_
                                    refine ucVi (As := [.int (sV s_j315 a0 7), .ref (yP y_j315 a1 k1), .int x4j315, .int x3j315]) (rest := []) G hP hD hS (cu_Mo_isTag l D g ad y_j315 _ s_j315 a0 (sV s_j315 a0 7) a1 k1 x4j315 x3j315 H.size h_a0 ⟨h_a1.1, h_a1.2⟩ h) w9_Mo_isTag q3514 ⟨Nat.le_of_ble_eq_true rfl, Nat.le_of_ble_eq_true rfl⟩ rfl rfl h_a0 (q := (RMo, TMo, 131)) rfl rfl hl.1 rfl (Nat.le_of_ble_eq_true rfl) rfl hd d_Mo_cutLine_331 (fun r_18 s_19 H locs h hP hD hS => ?_)
                                    refine lv_if_eq (tgt := 358) G.1 G.2.1 d_Mo_cutLine_334 (by decide) (fun c334 => ?_) (fun c334 => ?_)
                                    · skip
                                      have h := h.1 c334
                                      exact J_358 y_j315 s_19 d_j315 e_j315 x3j315 x4j315 x5j315 x6j315 x7j315 H locs h hP hD hS ls (lv_sub hl [0, 1, 2, 3, 4, 5, 6] rfl)
                                    · skip
                                      have h := h.2 c334
                                      refine W.eq (g2 := F0 m 337 ls []) rfl ?_
                                      refine lv_aload_n G.1 G.2.1 d_Mo_cutLine_337 rfl (lv_at hl 0 rfl) ?_
                                      refine lv_iconst (v := 3) G.1 G.2.1 d_Mo_cutLine_338 (by decide) ?_
                                      refine lv_aload_n G.1 G.2.1 d_Mo_cutLine_339 rfl (lv_at hl 0 rfl) ?_
                                      refine ugf (v := .int (sV s_19 a0 7)) G hP h_a0 iMo rfl 7 (by decide) rfl q3071 rfl rfl d_Mo_cutLine_340 ?_
                                      refine lv_iload G.1 G.2.1 d_Mo_cutLine_343 (lv_at hl 3 rfl) ?_
                                      refine ucVv (As := [.int 3, .int (sV s_19 a0 7), .int x4j315]) (rest := []) G hP hD hS (cu_Mo_addWord l D g ad y_j315 _ s_19 a0 3 (sV s_19 a0 7) x4j315 H.size h_a0 h) w9_Mo_addWord q3504 ⟨Nat.le_of_ble_eq_true rfl, Nat.le_of_ble_eq_true rfl⟩ rfl rfl h_a0 (q := (RMo, TMo, 131)) rfl rfl hl.1 rfl (Nat.le_of_ble_eq_true rfl) rfl hd d_Mo_cutLine_345 (fun s_21 H locs h hP hD hS => ?_)
                                      refine lv_iload G.1 G.2.1 d_Mo_cutLine_348 (lv_at hl 3 rfl) ?_
                                      refine lv_bipush (v := 7) G.1 G.2.1 d_Mo_cutLine_350 (by decide) ?_
                                      refine lv_iadd G.1 G.2.1 d_Mo_cutLine_352 ?_
                                      refine lv_istore (lv' := [(7, .int (x4j315 + 7)), (0, .ref (ad a0)), (1, .ref (yP y_j315 a1 k1)), (3, .int x3j315), (4, .int x4j315), (5, .int x5j315), (6, .int x6j315)]) G.1 G.2.1 d_Mo_cutLine_353 hl (by decide) rfl (fun ls hl => ?_)
                                      refine lv_goto (tgt := 376) G.1 G.2.1 d_Mo_cutLine_355 (by decide) ?_
                                      exact J_376 y_j315 s_21 d_j315 e_j315 x3j315 x5j315 (x4j315 + 7) H locs h hP hD hS ls (lv_sub hl [1, 2, 3, 5, 0] rfl)
                                refine W.eq (g2 := F0 m 276 ls [.int 60, .int x6j211]) rfl ?_
                                refine lv_icmp_ne (tgt := 315) G.1 G.2.1 d_Mo_cutLine_276 (by decide) (fun c276 => ?_) (fun c276 => ?_)
                                · skip
                                  have h := h.1 c276
                                  exact J_315 y_j211 s_j211 d_j211 e_j211 x3j211 x4j211 x5j211 x6j211 x7j211 H locs h hP hD hS ls (lv_sub hl [0, 1, 2, 3, 4, 5, 6] rfl)
                                · skip
                                  have h := h.2 c276
                                  refine lv_aload_n G.1 G.2.1 d_Mo_cutLine_279 rfl (lv_at hl 0 rfl) ?_
                                  refine lv_aload_n G.1 G.2.1 d_Mo_cutLine_280 rfl (lv_at hl 0 rfl) ?_
                                  refine ugf (v := .int (sV s_j211 a0 6)) G hP h_a0 iMo rfl 6 (by decide) rfl q3070 rfl rfl d_Mo_cutLine_281 ?_
                                  refine lv_aload_n G.1 G.2.1 d_Mo_cutLine_284 rfl (lv_at hl 1 rfl) ?_
                                  refine lv_iload G.1 G.2.1 d_Mo_cutLine_285 (lv_at hl 3 rfl) ?_
                                  refine lv_iload_n G.1 G.2.1 d_Mo_cutLine_287 rfl (lv_at hl 2 rfl) ?_
                                  refine ucVi (As := [.int (sV s_j211 a0 6), .ref (yP y_j211 a1 k1), .int x4j211, .int x3j211]) (rest := []) G hP hD hS (cu_Mo_isTag l D g ad y_j211 _ s_j211 a0 (sV s_j211 a0 6) a1 k1 x4j211 x3j211 H.size h_a0 ⟨h_a1.1, h_a1.2⟩ h) w9_Mo_isTag q3514 ⟨Nat.le_of_ble_eq_true rfl, Nat.le_of_ble_eq_true rfl⟩ rfl rfl h_a0 (q := (RMo, TMo, 131)) rfl rfl hl.1 rfl (Nat.le_of_ble_eq_true rfl) rfl hd d_Mo_cutLine_288 (fun r_22 s_23 H locs h hP hD hS => ?_)
                                  refine lv_if_eq (tgt := 315) G.1 G.2.1 d_Mo_cutLine_291 (by decide) (fun c291 => ?_) (fun c291 => ?_)
                                  · skip
                                    have h := h.1 c291
                                    exact J_315 y_j211 s_23 d_j211 e_j211 x3j211 x4j211 x5j211 x6j211 x7j211 H locs h hP hD hS ls (lv_sub hl [0, 1, 2, 3, 4, 5, 6] rfl)
                                  · skip
                                    have h := h.2 c291
                                    refine lv_aload_n G.1 G.2.1 d_Mo_cutLine_294 rfl (lv_at hl 0 rfl) ?_
                                    refine lv_iconst (v := 3) G.1 G.2.1 d_Mo_cutLine_295 (by decide) ?_
                                    refine lv_aload_n G.1 G.2.1 d_Mo_cutLine_296 rfl (lv_at hl 0 rfl) ?_
                                    refine W.eq (g2 := F0 m 297 ls [.ref (ad a0), .int 3, .ref (ad a0)]) rfl ?_
                                    refine ugf (v := .int (sV s_23 a0 6)) G hP h_a0 iMo rfl 6 (by decide) rfl q3070 rfl rfl d_Mo_cutLine_297 ?_
                                    refine lv_iload G.1 G.2.1 d_Mo_cutLine_300 (lv_at hl 3 rfl) ?_
                                    refine ucVv (As := [.int 3, .int (sV s_23 a0 6), .int x4j211]) (rest := []) G hP hD hS (cu_Mo_addWord l D g ad y_j211 _ s_23 a0 3 (sV s_23 a0 6) x4j211 H.size h_a0 h) w9_Mo_addWord q3504 ⟨Nat.le_of_ble_eq_true rfl, Nat.le_of_ble_eq_true rfl⟩ rfl rfl h_a0 (q := (RMo, TMo, 131)) rfl rfl hl.1 rfl (Nat.le_of_ble_eq_true rfl) rfl hd d_Mo_cutLine_302 (fun s_25 H locs h hP hD hS => ?_)
                                    refine lv_iload G.1 G.2.1 d_Mo_cutLine_305 (lv_at hl 3 rfl) ?_
                                    refine lv_bipush (v := 6) G.1 G.2.1 d_Mo_cutLine_307 (by decide) ?_
                                    refine lv_iadd G.1 G.2.1 d_Mo_cutLine_309 ?_
                                    refine lv_istore (lv' := [(7, .int (x4j211 + 6)), (0, .ref (ad a0)), (1, .ref (yP y_j211 a1 k1)), (3, .int x3j211), (4, .int x4j211), (5, .int x5j211), (6, .int x6j211)]) G.1 G.2.1 d_Mo_cutLine_310 hl (by decide) rfl (fun ls hl => ?_)
                                    refine lv_goto (tgt := 376) G.1 G.2.1 d_Mo_cutLine_312 (by decide) ?_
                                    exact J_376 y_j211 s_25 d_j211 e_j211 x3j211 x5j211 (x4j211 + 6) H locs h hP hD hS ls (lv_sub hl [1, 2, 3, 5, 0] rfl)
                              · skip
                                have h := h.2 c257
                                exact J_260 y_j211 s_j211 d_j211 e_j211 x3j211 x4j211 x5j211 x6j211 x7j211 H locs h hP hD hS ls (lv_sub hl [0, 1, 2, 3, 4, 5, 6] rfl)
                refine lv_icmp_ne (tgt := 211) G.1 G.2.1 d_Mo_cutLine_157 (by decide) (fun c157 => ?_) (fun c157 => ?_)
                · skip
                  have h := h.1 c157
                  exact J_211 y_h16 s_10 d_h16 e_h16 x3h16 x4h16 x5h16 x_6 (x4h16 + 1) H locs h hP hD hS ls (lv_sub hl [2, 3, 4, 5, 6, 1, 0] rfl)
                · skip
                  have h := h.2 c157
                  refine lv_iload G.1 G.2.1 d_Mo_cutLine_160 (lv_at hl 0 rfl) ?_
                  refine lv_iload_n G.1 G.2.1 d_Mo_cutLine_162 rfl (lv_at hl 4 rfl) ?_
                  refine lv_icmp_ge (tgt := 211) G.1 G.2.1 d_Mo_cutLine_163 (by decide) (fun c163 => ?_) (fun c163 => ?_)
                  · skip
                    have h := h.1 c163
                    exact J_211 y_h16 s_10 d_h16 e_h16 x3h16 x4h16 x5h16 x_6 (x4h16 + 1) H locs h hP hD hS ls (lv_sub hl [2, 3, 4, 5, 6, 1, 0] rfl)
                  · skip
                    have h := h.2 c163
                    refine lv_aload_n G.1 G.2.1 d_Mo_cutLine_166 rfl (lv_at hl 3 rfl) ?_
                    refine lv_iload G.1 G.2.1 d_Mo_cutLine_167 (lv_at hl 0 rfl) ?_
                    refine ubald G hP h_a1.1 h_a1.2 h d_Mo_cutLine_169 (fun x_26 h => ?_)
                    refine ucSi (As := [.int x_26]) (rest := []) G hP hD hS (cu_Mo_isDigit l D g ad y_h16 _ s_10 x_26 H.size  h) w9_Mo_isDigit q3501 ⟨Nat.le_of_ble_eq_true rfl, Nat.le_of_ble_eq_true rfl⟩ rfl rfl hl.1 rfl (Nat.le_of_ble_eq_true rfl) rfl hd d_Mo_cutLine_170 (fun r_27 s_28 H locs h hP hD hS => ?_)
                    refine lv_if_eq (tgt := 211) G.1 G.2.1 d_Mo_cutLine_173 (by decide) (fun c173 => ?_) (fun c173 => ?_)
                    · skip
                      have h := h.1 c173
                      exact J_211 y_h16 s_28 d_h16 e_h16 x3h16 x4h16 x5h16 x_6 (x4h16 + 1) H locs h hP hD hS ls (lv_sub hl [2, 3, 4, 5, 6, 1, 0] rfl)
                    · skip
                      have h := h.2 c173
                      exact J_176 y_h16 s_28 d_h16 e_h16 x3h16 x4h16 H locs h hP hD hS ls (lv_sub hl [2, 3, 4, 5] rfl)
            · skip
              have h := h.2 c53
              unfold wla_Mo_cutLine_56 at h
              obtain ⟨I_56, μ_56, hI_56, hB_56⟩ := h
              have L_56 : ∀ (n_56 : Nat) (y_h56 : Ly) (s_h56 : St) (d_h56 e_h56 : Nat) (x3h56 : Int32) (x4h56 : Int32) (x7h56 : Int32), μ_56 y_h56 s_h56 d_h56 e_h56 x3h56 x4h56 x7h56 < n_56 → I_56 y_h56 s_h56 d_h56 e_h56 x3h56 x4h56 x7h56 → ∀ (H : Heap) (locs : List Loc), va_P D CL (ws g ad y_h56 s_h56) H → va_D A (ws g ad y_h56 s_h56) → va_S A s.heap H locs → ∀ ls, lv_has ls 8 [(0, .ref (ad a0)), (1, .ref (yP y_h56 a1 k1)), (3, .int x3h56), (4, .int x4h56), (7, .int x7h56)] → W p l e (ra_Mo_cutLine mc ms) s m args below meth c H locs d_h56 e_h56 Q (F0 m 56 ls []) := by
                intro n_56
                induction n_56 with
                | zero => intro y_h56 s_h56 d_h56 e_h56 x3h56 x4h56 x7h56 hμ; exact absurd hμ (Nat.not_lt_zero _)
                | succ n_56 ih_56 =>
                  intro y_h56 s_h56 d_h56 e_h56 x3h56 x4h56 x7h56 hμ_56 hJ H locs hP hD hS ls hl
                  obtain ⟨K_56, hK_56, h⟩ : ∃ K : Ly → St → Nat → Nat → Int32 → Int32 → Int32 → Prop, (∀ z1 z2 z3 z4 (t0 : Int32) (t1 : Int32) (t2 : Int32), K z1 z2 z3 z4 t0 t1 t2 → I_56 z1 z2 z3 z4 t0 t1 t2 ∧ μ_56 z1 z2 z3 z4 t0 t1 t2 < μ_56 y_h56 s_h56 d_h56 e_h56 x3h56 x4h56 x7h56) ∧ wba_Mo_cutLine_56 mc ms Post K_16 K a0 a1 k1 y_h56 s_h56 d_h56 e_h56 x3h56 x4h56 x7h56 := ⟨_, fun _ _ _ _ _ _ _ h => h, hB_56 y_h56 s_h56 d_h56 e_h56 x3h56 x4h56 x7h56 hJ⟩
                  unfold wba_Mo_cutLine_56 at h
                  obtain ⟨hd, h⟩ := h
                  refine lv_iload G.1 G.2.1 d_Mo_cutLine_56 (lv_at hl 4 rfl) ?_
                  refine lv_iload_n G.1 G.2.1 d_Mo_cutLine_58 rfl (lv_at hl 2 rfl) ?_
                  have J_88 : ∀ (y_j88 : Ly) (s_j88 : St) (d_j88 e_j88 : Nat) (x3j88 : Int32) (x4j88 : Int32) (x7j88 : Int32) (H : Heap) (locs : List Loc), wja_Mo_cutLine_88 mc ms Post K_16 a0 a1 k1 y_j88 s_j88 d_j88 e_j88 x3j88 x4j88 x7j88 → va_P D CL (ws g ad y_j88 s_j88) H → va_D A (ws g ad y_j88 s_j88) → va_S A s.heap H locs → ∀ ls, lv_has ls 8 [(0, .ref (ad a0)), (1, .ref (yP y_j88 a1 k1)), (3, .int x3j88), (4, .int x4j88), (7, .int x7j88)] → W p l e (ra_Mo_cutLine mc ms) s m args below meth c H locs d_j88 e_j88 Q (F0 m 88 ls []) := by
                    intro y_j88 s_j88 d_j88 e_j88 x3j88 x4j88 x7j88 H locs h hP hD hS ls hl
                    unfold wja_Mo_cutLine_88 at h
                    obtain ⟨hd, h⟩ := h
                    refine lv_iload G.1 G.2.1 d_Mo_cutLine_88 (lv_at hl 4 rfl) ?_
                    refine lv_iload G.1 G.2.1 d_Mo_cutLine_90 (lv_at hl 3 rfl) ?_
                    refine lv_isub G.1 G.2.1 d_Mo_cutLine_92 ?_
                    refine lv_bipush (v := 12) G.1 G.2.1 d_Mo_cutLine_93 (by decide) ?_
                    have J_103 : ∀ (y_j103 : Ly) (s_j103 : St) (d_j103 e_j103 : Nat) (x3j103 : Int32) (x4j103 : Int32) (x7j103 : Int32) (z0j103 : Int32) (H : Heap) (locs : List Loc), wja_Mo_cutLine_103 mc ms Post K_16 a0 a1 k1 y_j103 s_j103 d_j103 e_j103 x3j103 x4j103 x7j103 z0j103 → va_P D CL (ws g ad y_j103 s_j103) H → va_D A (ws g ad y_j103 s_j103) → va_S A s.heap H locs → ∀ ls, lv_has ls 8 [(0, .ref (ad a0)), (1, .ref (yP y_j103 a1 k1)), (3, .int x3j103), (4, .int x4j103), (7, .int x7j103)] → W p l e (ra_Mo_cutLine mc ms) s m args below meth c H locs d_j103 e_j103 Q (F0 m 103 ls [.int z0j103]) := by
                      intro y_j103 s_j103 d_j103 e_j103 x3j103 x4j103 x7j103 z0j103 H locs h hP hD hS ls hl
                      unfold wja_Mo_cutLine_103 at h
                      obtain ⟨hd, h⟩ := h
                      refine lv_istore (lv' := [(5, .int z0j103), (0, .ref (ad a0)), (1, .ref (yP y_j103 a1 k1)), (3, .int x3j103), (4, .int x4j103), (7, .int x7j103)]) G.1 G.2.1 d_Mo_cutLine_103 hl (by decide) rfl (fun ls hl => ?_)
                      refine lv_aload_n G.1 G.2.1 d_Mo_cutLine_105 rfl (lv_at hl 1 rfl) ?_
                      refine lv_iload G.1 G.2.1 d_Mo_cutLine_106 (lv_at hl 0 rfl) ?_
                      have J_116 : ∀ (y_j116 : Ly) (s_j116 : St) (d_j116 e_j116 : Nat) (x3j116 : Int32) (x4j116 : Int32) (x5j116 : Int32) (x7j116 : Int32) (z1j116 : Int32) (H : Heap) (locs : List Loc), wja_Mo_cutLine_116 mc ms Post K_16 a0 a1 k1 y_j116 s_j116 d_j116 e_j116 x3j116 x4j116 x5j116 x7j116 z1j116 → va_P D CL (ws g ad y_j116 s_j116) H → va_D A (ws g ad y_j116 s_j116) → va_S A s.heap H locs → ∀ ls, lv_has ls 8 [(0, .ref (ad a0)), (1, .ref (yP y_j116 a1 k1)), (3, .int x3j116), (4, .int x4j116), (5, .int x5j116), (7, .int x7j116)] → W p l e (ra_Mo_cutLine mc ms) s m args below meth c H locs d_j116 e_j116 Q (F0 m 116 ls [.int z1j116, .ref (ad a0)]) := by
                        intro y_j116 s_j116 d_j116 e_j116 x3j116 x4j116 x5j116 x7j116 z1j116 H locs h hP hD hS ls hl
                        unfold wja_Mo_cutLine_116 at h
                        obtain ⟨hd, h⟩ := h
                        refine lv_iload G.1 G.2.1 d_Mo_cutLine_116 (lv_at hl 4 rfl) ?_
                        have J_137 : ∀ (y_j137 : Ly) (s_j137 : St) (d_j137 e_j137 : Nat) (x3j137 : Int32) (x4j137 : Int32) (x5j137 : Int32) (x7j137 : Int32) (z1j137 : Int32) (z2j137 : Int32) (H : Heap) (locs : List Loc), wja_Mo_cutLine_137 mc ms Post K_16 a0 a1 k1 y_j137 s_j137 d_j137 e_j137 x3j137 x4j137 x5j137 x7j137 z1j137 z2j137 → va_P D CL (ws g ad y_j137 s_j137) H → va_D A (ws g ad y_j137 s_j137) → va_S A s.heap H locs → ∀ ls, lv_has ls 8 [(0, .ref (ad a0)), (1, .ref (yP y_j137 a1 k1)), (3, .int x3j137), (4, .int x4j137), (5, .int x5j137), (7, .int x7j137)] → W p l e (ra_Mo_cutLine mc ms) s m args below meth c H locs d_j137 e_j137 Q (F0 m 137 ls [.int z2j137, .int z1j137, .ref (ad a0)]) := by
                          intro y_j137 s_j137 d_j137 e_j137 x3j137 x4j137 x5j137 x7j137 z1j137 z2j137 H locs h hP hD hS ls hl
                          unfold wja_Mo_cutLine_137 at h
                          obtain ⟨hd, h⟩ := h
                          refine lv_iload G.1 G.2.1 d_Mo_cutLine_137 (lv_at hl 3 rfl) ?_
                          refine ucVv (As := [.int z1j137, .int z2j137, .int x4j137]) (rest := []) G hP hD hS (cu_Mo_addWord l D g ad y_j137 _ s_j137 a0 z1j137 z2j137 x4j137 H.size h_a0 h) w9_Mo_addWord q3504 ⟨Nat.le_of_ble_eq_true rfl, Nat.le_of_ble_eq_true rfl⟩ rfl rfl h_a0 (q := (RMo, TMo, 131)) rfl rfl hl.1 rfl (Nat.le_of_ble_eq_true rfl) rfl hd d_Mo_cutLine_139 (fun s_30 H locs h hP hD hS => ?_)
                          refine lv_goto (tgt := 376) G.1 G.2.1 d_Mo_cutLine_142 (by decide) ?_
                          exact J_376 y_j137 s_30 d_j137 e_j137 x3j137 x5j137 x7j137 H locs h hP hD hS ls (lv_sub hl [0, 1, 2, 4, 5] rfl)
                        refine lv_if_eq (tgt := 136) G.1 G.2.1 d_Mo_cutLine_118 (by decide) (fun c118 => ?_) (fun c118 => ?_)
                        · skip
                          have h := h.1 c118
                          refine lv_iconst (v := 0) G.1 G.2.1 d_Mo_cutLine_136 (by decide) ?_
                          exact J_137 y_j116 s_j116 d_j116 e_j116 x3j116 x4j116 x5j116 x7j116 z1j116 0 H locs h hP hD hS ls (lv_sub hl [0, 1, 2, 3, 4, 5] rfl)
                        · skip
                          have h := h.2 c118
                          refine lv_aload_n G.1 G.2.1 d_Mo_cutLine_121 rfl (lv_at hl 0 rfl) ?_
                          refine lv_aload_n G.1 G.2.1 d_Mo_cutLine_122 rfl (lv_at hl 1 rfl) ?_
                          refine lv_iload G.1 G.2.1 d_Mo_cutLine_123 (lv_at hl 3 rfl) ?_
                          refine lv_iload G.1 G.2.1 d_Mo_cutLine_125 (lv_at hl 5 rfl) ?_
                          refine lv_iload G.1 G.2.1 d_Mo_cutLine_127 (lv_at hl 3 rfl) ?_
                          refine lv_isub G.1 G.2.1 d_Mo_cutLine_129 ?_
                          obtain ⟨mc_36, ms_37, hr_38, h⟩ := h
                          refine uaVi (As := [.ref (yP y_j116 a1 k1), .int x4j116, .int (x7j116 - x4j116)]) (rest := [.int z1j116, .ref (ad a0)]) G hP hD hS (ca_Mo_nameIn l D g ad mc_36 ms_37 y_j116 _ s_j116 a0 a1 k1 x4j116 (x7j116 - x4j116) H.size (us H) h_a0 ⟨h_a1.1, h_a1.2⟩ h) w9_Mo_nameIn q2583 ⟨Nat.le_of_ble_eq_true rfl, Nat.le_of_ble_eq_true rfl⟩ rfl rfl h_a0 (q := (RMo, TMo, 131)) rfl rfl hl.1 rfl (Nat.le_of_ble_eq_true rfl) rfl hr_38 d_Mo_cutLine_130 (fun r_31 y_33 s_32 d_34 e_35 H locs h hP hD hS => ?_)
                          obtain ⟨hd, h⟩ := h
                          obtain ⟨n_39, h⟩ := h
                          rw [n_39] at hl
                          refine lv_goto (tgt := 137) G.1 G.2.1 d_Mo_cutLine_133 (by decide) ?_
                          exact J_137 y_33 s_32 (d_j116 + d_34) (e_j116 + e_35) x3j116 x4j116 x5j116 x7j116 z1j116 r_31 H locs h hP hD hS ls (lv_sub hl [0, 1, 2, 3, 4, 5] rfl)
                      refine lv_if_eq (tgt := 115) G.1 G.2.1 d_Mo_cutLine_108 (by decide) (fun c108 => ?_) (fun c108 => ?_)
                      · skip
                        have h := h.1 c108
                        refine lv_iconst (v := 1) G.1 G.2.1 d_Mo_cutLine_115 (by decide) ?_
                        exact J_116 y_j103 s_j103 d_j103 e_j103 x3j103 x4j103 z0j103 x7j103 1 H locs h hP hD hS ls (lv_sub hl [1, 2, 3, 4, 0, 5] rfl)
                      · skip
                        have h := h.2 c108
                        refine lv_iconst (v := 2) G.1 G.2.1 d_Mo_cutLine_111 (by decide) ?_
                        refine lv_goto (tgt := 116) G.1 G.2.1 d_Mo_cutLine_112 (by decide) ?_
                        exact J_116 y_j103 s_j103 d_j103 e_j103 x3j103 x4j103 z0j103 x7j103 2 H locs h hP hD hS ls (lv_sub hl [1, 2, 3, 4, 0, 5] rfl)
                    refine lv_icmp_gt (tgt := 102) G.1 G.2.1 d_Mo_cutLine_95 (by decide) (fun c95 => ?_) (fun c95 => ?_)
                    · skip
                      have h := h.1 c95
                      refine lv_iconst (v := 0) G.1 G.2.1 d_Mo_cutLine_102 (by decide) ?_
                      exact J_103 y_j88 s_j88 d_j88 e_j88 x3j88 x4j88 x7j88 0 H locs h hP hD hS ls (lv_sub hl [0, 1, 2, 3, 4] rfl)
                    · skip
                      have h := h.2 c95
                      refine lv_iconst (v := 1) G.1 G.2.1 d_Mo_cutLine_98 (by decide) ?_
                      refine lv_goto (tgt := 103) G.1 G.2.1 d_Mo_cutLine_99 (by decide) ?_
                      exact J_103 y_j88 s_j88 d_j88 e_j88 x3j88 x4j88 x7j88 1 H locs h hP hD hS ls (lv_sub hl [0, 1, 2, 3, 4] rfl)
                  refine lv_icmp_ge (tgt := 88) G.1 G.2.1 d_Mo_cutLine_59 (by decide) (fun c59 => ?_) (fun c59 => ?_)
                  · skip
                    have h := h.1 c59
                    exact J_88 y_h56 s_h56 d_h56 e_h56 x3h56 x4h56 x7h56 H locs h hP hD hS ls (lv_sub hl [0, 1, 2, 3, 4] rfl)
                  · skip
                    have h := h.2 c59
                    refine lv_aload_n G.1 G.2.1 d_Mo_cutLine_62 rfl (lv_at hl 1 rfl) ?_
                    refine lv_iload G.1 G.2.1 d_Mo_cutLine_63 (lv_at hl 4 rfl) ?_
                    refine ubald G hP h_a1.1 h_a1.2 h d_Mo_cutLine_65 (fun x_40 h => ?_)
                    refine ucSi (As := [.int x_40]) (rest := []) G hP hD hS (cu_Mo_isLetter l D g ad y_h56 _ s_h56 x_40 H.size  h) w9_Mo_isLetter q3498 ⟨Nat.le_of_ble_eq_true rfl, Nat.le_of_ble_eq_true rfl⟩ rfl rfl hl.1 rfl (Nat.le_of_ble_eq_true rfl) rfl hd d_Mo_cutLine_66 (fun r_41 s_42 H locs h hP hD hS => ?_)
                    have J_82 : ∀ (y_j82 : Ly) (s_j82 : St) (d_j82 e_j82 : Nat) (x3j82 : Int32) (x4j82 : Int32) (x7j82 : Int32) (H : Heap) (locs : List Loc), wja_Mo_cutLine_82 mc ms Post K_16 K_56 a0 a1 k1 y_j82 s_j82 d_j82 e_j82 x3j82 x4j82 x7j82 → va_P D CL (ws g ad y_j82 s_j82) H → va_D A (ws g ad y_j82 s_j82) → va_S A s.heap H locs → ∀ ls, lv_has ls 8 [(0, .ref (ad a0)), (1, .ref (yP y_j82 a1 k1)), (3, .int x3j82), (4, .int x4j82), (7, .int x7j82)] → W p l e (ra_Mo_cutLine mc ms) s m args below meth c H locs d_j82 e_j82 Q (F0 m 82 ls []) := by
                      intro y_j82 s_j82 d_j82 e_j82 x3j82 x4j82 x7j82 H locs h hP hD hS ls hl
                      unfold wja_Mo_cutLine_82 at h
                      obtain ⟨hd, h⟩ := h
                      refine lv_iinc (v := x7j82 + 1) (lv' := [(7, .int (x7j82 + 1)), (0, .ref (ad a0)), (1, .ref (yP y_j82 a1 k1)), (3, .int x3j82), (4, .int x4j82)]) G.1 G.2.1 d_Mo_cutLine_82 hl (k := 4) rfl rfl (by decide) rfl (fun ls hl => ?_)
                      refine lv_goto (tgt := 56) G.1 G.2.1 d_Mo_cutLine_85 (by decide) ?_
                      have h := hK_56 y_j82 s_j82 d_j82 e_j82 x3j82 x4j82 (x7j82 + 1) h
                      exact ih_56 y_j82 s_j82 d_j82 e_j82 x3j82 x4j82 (x7j82 + 1) (Nat.lt_of_lt_of_le h.2 (Nat.le_of_lt_succ hμ_56)) h.1 H locs hP hD hS ls (lv_sub hl [1, 2, 3, 4, 0] rfl)
                    refine lv_if_ne (tgt := 82) G.1 G.2.1 d_Mo_cutLine_69 (by decide) (fun c69 => ?_) (fun c69 => ?_)
                    · skip
                      have h := h.1 c69
                      exact J_82 y_h56 s_42 d_h56 e_h56 x3h56 x4h56 x7h56 H locs h hP hD hS ls (lv_sub hl [0, 1, 2, 3, 4] rfl)
                    · skip
                      have h := h.2 c69
                      refine lv_aload_n G.1 G.2.1 d_Mo_cutLine_72 rfl (lv_at hl 1 rfl) ?_
                      refine lv_iload G.1 G.2.1 d_Mo_cutLine_73 (lv_at hl 4 rfl) ?_
                      refine ubald G hP h_a1.1 h_a1.2 h d_Mo_cutLine_75 (fun x_43 h => ?_)
                      refine W.eq (g2 := F0 m 76 ls [.int x_43]) rfl ?_
                      refine ucSi (As := [.int x_43]) (rest := []) G hP hD hS (cu_Mo_isDigit l D g ad y_h56 _ s_42 x_43 H.size  h) w9_Mo_isDigit q3501 ⟨Nat.le_of_ble_eq_true rfl, Nat.le_of_ble_eq_true rfl⟩ rfl rfl hl.1 rfl (Nat.le_of_ble_eq_true rfl) rfl hd d_Mo_cutLine_76 (fun r_44 s_45 H locs h hP hD hS => ?_)
                      refine lv_if_eq (tgt := 88) G.1 G.2.1 d_Mo_cutLine_79 (by decide) (fun c79 => ?_) (fun c79 => ?_)
                      · skip
                        have h := h.1 c79
                        exact J_88 y_h56 s_45 d_h56 e_h56 x3h56 x4h56 x7h56 H locs h hP hD hS ls (lv_sub hl [0, 1, 2, 3, 4] rfl)
                      · skip
                        have h := h.2 c79
                        exact J_82 y_h56 s_45 d_h56 e_h56 x3h56 x4h56 x7h56 H locs h hP hD hS ls (lv_sub hl [0, 1, 2, 3, 4] rfl)
              exact L_56 _ y_h16 s_8 d_h16 e_h16 x3h16 x4h16 (x4h16 + 1) (Nat.lt_succ_self _) hI_56 H locs hP hD hS ls (lv_sub hl [2, 3, 4, 5, 0] rfl)
  exact L_16 _ y s_2 0 0 v3 v2 1 (Nat.lt_succ_self _) hI_16 H locs hP hD hS ls (lv_sub hl [2, 3, 5, 1, 0] rfl)
def y_Mo_refuse : MethodName := ⟨"ClassWorksModel", "refuse", "(II)V"⟩
abbrev b_Mo_refuse : ByteArray := prog_14_method_20_code
theorem q3113 : Cond.fieldLink "ClassWorksModel" 526 "ClassWorksModel" "brokenRule" "I" ∈ lw_ok := lw_okmem (List.mem_of_getElem? (i := 3113) (by decide +kernel)) rfl
theorem q3114 : Cond.fieldLink "ClassWorksModel" 529 "ClassWorksModel" "brokenPlace" "I" ∈ lw_ok := lw_okmem (List.mem_of_getElem? (i := 3114) (by decide +kernel)) rfl
theorem q3112 : Cond.fieldLink "ClassWorksModel" 274 "ClassWorksModel" "stop" "Ljava/lang/IllegalStateException;" ∈ lw_ok := lw_okmem (List.mem_of_getElem? (i := 3112) (by decide +kernel)) rfl
theorem d_Mo_refuse_0 : decode b_Mo_refuse 0 = .ok (.aload_n 0, 1) := by decide +kernel
theorem d_Mo_refuse_1 : decode b_Mo_refuse 1 = .ok (.iload_n 1, 1) := by decide +kernel
theorem d_Mo_refuse_2 : decode b_Mo_refuse 2 = .ok (.putfield 526, 3) := by decide +kernel
theorem d_Mo_refuse_5 : decode b_Mo_refuse 5 = .ok (.aload_n 0, 1) := by decide +kernel
theorem d_Mo_refuse_6 : decode b_Mo_refuse 6 = .ok (.iload_n 2, 1) := by decide +kernel
theorem d_Mo_refuse_7 : decode b_Mo_refuse 7 = .ok (.putfield 529, 3) := by decide +kernel
theorem d_Mo_refuse_10 : decode b_Mo_refuse 10 = .ok (.aload_n 0, 1) := by decide +kernel
theorem d_Mo_refuse_11 : decode b_Mo_refuse 11 = .ok (.getfield 274, 3) := by decide +kernel
theorem d_Mo_refuse_14 : decode b_Mo_refuse 14 = .ok (.athrow, 1) := by decide +kernel
abbrev ra_Mo_refuse (mc ms : Nat) : Room := { frames := 0, cells := mc, slots := ms, locals := 0 }
def wx_Mo_refuse (mc ms : Nat) (y : Ly) (Post : Ly → St → Nat → Nat → Prop) (PX : Ly → St → Nat → Nat → Prop) (σ : St) (a0 : Nat) (v1 : Int32) (v2 : Int32) : Prop := xP (uV σ a0 49 v1) (fun s_1 : St => xP (uV s_1 a0 50 v2) (fun s_2 : St => PX y s_2 0 0))
set_option maxHeartbeats 4000000 in
set_option maxRecDepth 100000 in
theorem cx_Mo_refuse (l : Launch) (D : va_G) (g : Nat → ClassId) (ad : Nat → Nat) (mc ms : Nat) (y : Ly) (Post : Ly → St → Nat → Nat → Prop) (PX : Ly → St → Nat → Nat → Prop) (σ : St) (a0 : Nat) (v1 : Int32) (v2 : Int32) (sz uz : Nat) (h_a0 : cl a0 = 14) (h : wx_Mo_refuse mc ms y Post PX σ a0 v1 v2) : vx_Met l y_Mo_refuse (mw y_Mo_refuse b_Mo_refuse 3 (none)) (ra_Mo_refuse mc ms) (PCu g D [] [.ref (ad a0), .int v1, .int v2] sz uz (ws g ad y σ)) (va_Qv (fun (u : Ly × St × Nat × Nat) => Post u.1 u.2.1 u.2.2.1 u.2.2.2) (QU D (va_A (ws g ad y σ) sz) (fun u => ws g ad u.1 u.2.1) sz uz (fun u => u.2.2.1) (fun u => u.2.2.2)) (va_A (ws g ad y σ) sz)) (XQ D g ad (va_A (ws g ad y σ) sz) sz uz PX) mc ms (va_A (ws g ad y σ) sz) := by
  refine ofVx (by decide +kernel) (Nat.le_of_ble_eq_true rfl) ?_
  intro p e s m args below meth c A Q ls H locs G hsz hP hD hS hl hret hretX
  subst hsz
  have hl : lv_has ls 3 [(0, .ref (ad a0)), (1, .int v1), (2, .int v2)] := hl
  have hd : 0 ≤ mc ∧ 0 ≤ ms := ⟨Nat.zero_le _, Nat.zero_le _⟩
  unfold wx_Mo_refuse at h
  refine lv_aload_n G.1 G.2.1 d_Mo_refuse_0 rfl (lv_at hl 0 rfl) ?_
  refine lv_iload_n G.1 G.2.1 d_Mo_refuse_1 rfl (lv_at hl 1 rfl) ?_
  refine upf G hP hD hS h 49 putV h_a0 iMo tMo tMo_ok nMo rfl (by decide) rfl q3113 rfl rfl fV rfl rfl d_Mo_refuse_2 (fun s_1 H locs h hP hD hS => ?_)
  refine lv_aload_n G.1 G.2.1 d_Mo_refuse_5 rfl (lv_at hl 0 rfl) ?_
  refine lv_iload_n G.1 G.2.1 d_Mo_refuse_6 rfl (lv_at hl 2 rfl) ?_
  refine upf G hP hD hS h 50 putV h_a0 iMo tMo tMo_ok nMo rfl (by decide) rfl q3114 rfl rfl fV rfl rfl d_Mo_refuse_7 (fun s_2 H locs h hP hD hS => ?_)
  refine lv_aload_n G.1 G.2.1 d_Mo_refuse_10 rfl (lv_at hl 0 rfl) ?_
  refine ugf (v := .ref (ad (lk a0 48))) G hP h_a0 iMo rfl 48 (by decide) rfl q3112 rfl rfl d_Mo_refuse_11 ?_
  refine uathrow G hP (lk_14_48 h_a0) d_Mo_refuse_14 (fun ce hce hcv hcl => ?_)
  exact hretX h hP hD hS hd.1 hd.2 hce hcv hcl
theorem q3118 : Cond.fieldLink "ClassWorksModel" 642 "ClassWorksModel" "method" "I" ∈ lw_ok := lw_okmem (List.mem_of_getElem? (i := 3118) (by decide +kernel)) rfl
theorem q3128 : Cond.fieldLink "ClassWorksModel" 647 "ClassWorksModel" "nines" "I" ∈ lw_ok := lw_okmem (List.mem_of_getElem? (i := 3128) (by decide +kernel)) rfl
theorem q3530 : Cond.methodLink "ClassWorksModel" 665 y_Mo_labelOf ∈ lw_ok := lw_okmem (List.mem_of_getElem? (i := 3530) (by decide +kernel)) rfl
theorem q3533 : Cond.code y_Mo_labelOf b_Mo_labelOf 3 (some .int) ∈ lw_ok := lw_okmem (List.mem_of_getElem? (i := 3533) (by decide +kernel)) rfl
theorem q3532 : Cond.instanceMethod y_Mo_labelOf ∈ lw_ok := lw_okmem (List.mem_of_getElem? (i := 3532) (by decide +kernel)) rfl
theorem q186 : Cond.selects y_Mo_labelOf.cls y_Mo_labelOf y_Mo_labelOf ∈ lw_ok := lw_okmem (List.mem_of_getElem? (i := 186) (by decide +kernel)) rfl
theorem w9_Mo_labelOf : CWv y_Mo_labelOf b_Mo_labelOf 3 (some .int) 1 ∧ Cond.instanceMethod y_Mo_labelOf ∈ lw_ok ∧ Cond.selects y_Mo_labelOf.cls y_Mo_labelOf y_Mo_labelOf ∈ lw_ok := ⟨⟨q3533, q348, by decide +kernel, by decide +kernel, by decide +kernel⟩, q3532, q186⟩
theorem q3535 : Cond.methodLink "ClassWorksModel" 576 y_Mo_refuse ∈ lw_ok := lw_okmem (List.mem_of_getElem? (i := 3535) (by decide +kernel)) rfl
theorem q3538 : Cond.code y_Mo_refuse b_Mo_refuse 3 (none) ∈ lw_ok := lw_okmem (List.mem_of_getElem? (i := 3538) (by decide +kernel)) rfl
theorem q3537 : Cond.instanceMethod y_Mo_refuse ∈ lw_ok := lw_okmem (List.mem_of_getElem? (i := 3537) (by decide +kernel)) rfl
theorem q187 : Cond.selects y_Mo_refuse.cls y_Mo_refuse y_Mo_refuse ∈ lw_ok := lw_okmem (List.mem_of_getElem? (i := 187) (by decide +kernel)) rfl
theorem w9_Mo_refuse : CWv y_Mo_refuse b_Mo_refuse 3 (none) 2 ∧ Cond.instanceMethod y_Mo_refuse ∈ lw_ok ∧ Cond.selects y_Mo_refuse.cls y_Mo_refuse y_Mo_refuse ∈ lw_ok := ⟨⟨q3538, q348, by decide +kernel, by decide +kernel, by decide +kernel⟩, q3537, q187⟩
def y_Mo_endMethod : MethodName := ⟨"ClassWorksModel", "endMethod", "()V"⟩
abbrev b_Mo_endMethod : ByteArray := prog_14_method_49_code
theorem q3130 : Cond.fieldLink "ClassWorksModel" 299 "ClassWorksModel" "handlerPlaces" "[I" ∈ lw_ok := lw_okmem (List.mem_of_getElem? (i := 3130) (by decide +kernel)) rfl
theorem q3125 : Cond.fieldLink "ClassWorksModel" 289 "ClassWorksModel" "nineNames" "[I" ∈ lw_ok := lw_okmem (List.mem_of_getElem? (i := 3125) (by decide +kernel)) rfl
theorem q3534 : Cond.constant "ClassWorksModel" 616 (-2147483648) ∈ lw_ok := lw_okmem (List.mem_of_getElem? (i := 3534) (by decide +kernel)) rfl
theorem q3126 : Cond.fieldLink "ClassWorksModel" 292 "ClassWorksModel" "ninePlaces" "[I" ∈ lw_ok := lw_okmem (List.mem_of_getElem? (i := 3126) (by decide +kernel)) rfl
theorem q3127 : Cond.fieldLink "ClassWorksModel" 295 "ClassWorksModel" "nineMayEnd" "[Z" ∈ lw_ok := lw_okmem (List.mem_of_getElem? (i := 3127) (by decide +kernel)) rfl
theorem d_Mo_endMethod_0 : decode b_Mo_endMethod 0 = .ok (.aload_n 0, 1) := by decide +kernel
theorem d_Mo_endMethod_1 : decode b_Mo_endMethod 1 = .ok (.getfield 522, 3) := by decide +kernel
theorem d_Mo_endMethod_4 : decode b_Mo_endMethod 4 = .ok (.getfield 465, 3) := by decide +kernel
theorem d_Mo_endMethod_7 : decode b_Mo_endMethod 7 = .ok (.aload_n 0, 1) := by decide +kernel
theorem d_Mo_endMethod_8 : decode b_Mo_endMethod 8 = .ok (.getfield 642, 3) := by decide +kernel
theorem d_Mo_endMethod_11 : decode b_Mo_endMethod 11 = .ok (.iaload, 1) := by decide +kernel
theorem d_Mo_endMethod_12 : decode b_Mo_endMethod 12 = .ok (.istore_n 1, 1) := by decide +kernel
theorem d_Mo_endMethod_13 : decode b_Mo_endMethod 13 = .ok (.iconst 0, 1) := by decide +kernel
theorem d_Mo_endMethod_14 : decode b_Mo_endMethod 14 = .ok (.istore_n 2, 1) := by decide +kernel
theorem d_Mo_endMethod_15 : decode b_Mo_endMethod 15 = .ok (.iload_n 2, 1) := by decide +kernel
theorem d_Mo_endMethod_16 : decode b_Mo_endMethod 16 = .ok (.aload_n 0, 1) := by decide +kernel
theorem d_Mo_endMethod_17 : decode b_Mo_endMethod 17 = .ok (.getfield 647, 3) := by decide +kernel
theorem d_Mo_endMethod_20 : decode b_Mo_endMethod 20 = .ok (.if_icmp .ge 82, 3) := by decide +kernel
theorem d_Mo_endMethod_23 : decode b_Mo_endMethod 23 = .ok (.aload_n 0, 1) := by decide +kernel
theorem d_Mo_endMethod_24 : decode b_Mo_endMethod 24 = .ok (.getfield 289, 3) := by decide +kernel
theorem d_Mo_endMethod_27 : decode b_Mo_endMethod 27 = .ok (.iload_n 2, 1) := by decide +kernel
theorem d_Mo_endMethod_28 : decode b_Mo_endMethod 28 = .ok (.iaload, 1) := by decide +kernel
theorem d_Mo_endMethod_29 : decode b_Mo_endMethod 29 = .ok (.ifCond .ge 14, 3) := by decide +kernel
theorem d_Mo_endMethod_32 : decode b_Mo_endMethod 32 = .ok (.iconst (-1), 1) := by decide +kernel
theorem d_Mo_endMethod_33 : decode b_Mo_endMethod 33 = .ok (.aload_n 0, 1) := by decide +kernel
theorem d_Mo_endMethod_34 : decode b_Mo_endMethod 34 = .ok (.getfield 289, 3) := by decide +kernel
theorem d_Mo_endMethod_37 : decode b_Mo_endMethod 37 = .ok (.iload_n 2, 1) := by decide +kernel
theorem d_Mo_endMethod_38 : decode b_Mo_endMethod 38 = .ok (.iaload, 1) := by decide +kernel
theorem d_Mo_endMethod_39 : decode b_Mo_endMethod 39 = .ok (.isub, 1) := by decide +kernel
theorem d_Mo_endMethod_40 : decode b_Mo_endMethod 40 = .ok (.goto 13, 3) := by decide +kernel
theorem d_Mo_endMethod_43 : decode b_Mo_endMethod 43 = .ok (.aload_n 0, 1) := by decide +kernel
theorem d_Mo_endMethod_44 : decode b_Mo_endMethod 44 = .ok (.aload_n 0, 1) := by decide +kernel
theorem d_Mo_endMethod_45 : decode b_Mo_endMethod 45 = .ok (.getfield 289, 3) := by decide +kernel
theorem d_Mo_endMethod_48 : decode b_Mo_endMethod 48 = .ok (.iload_n 2, 1) := by decide +kernel
theorem d_Mo_endMethod_49 : decode b_Mo_endMethod 49 = .ok (.iaload, 1) := by decide +kernel
theorem d_Mo_endMethod_50 : decode b_Mo_endMethod 50 = .ok (.invokevirtual 665, 3) := by decide +kernel
theorem d_Mo_endMethod_53 : decode b_Mo_endMethod 53 = .ok (.istore_n 3, 1) := by decide +kernel
theorem d_Mo_endMethod_54 : decode b_Mo_endMethod 54 = .ok (.aload_n 0, 1) := by decide +kernel
theorem d_Mo_endMethod_55 : decode b_Mo_endMethod 55 = .ok (.getfield 289, 3) := by decide +kernel
theorem d_Mo_endMethod_58 : decode b_Mo_endMethod 58 = .ok (.iload_n 2, 1) := by decide +kernel
theorem d_Mo_endMethod_59 : decode b_Mo_endMethod 59 = .ok (.iaload, 1) := by decide +kernel
theorem d_Mo_endMethod_60 : decode b_Mo_endMethod 60 = .ok (.ldc_w 616, 3) := by decide +kernel
theorem d_Mo_endMethod_63 : decode b_Mo_endMethod 63 = .ok (.if_icmp .eq 21, 3) := by decide +kernel
theorem d_Mo_endMethod_66 : decode b_Mo_endMethod 66 = .ok (.iload_n 3, 1) := by decide +kernel
theorem d_Mo_endMethod_67 : decode b_Mo_endMethod 67 = .ok (.ifCond .lt 17, 3) := by decide +kernel
theorem d_Mo_endMethod_70 : decode b_Mo_endMethod 70 = .ok (.iload_n 3, 1) := by decide +kernel
theorem d_Mo_endMethod_71 : decode b_Mo_endMethod 71 = .ok (.iload_n 1, 1) := by decide +kernel
theorem d_Mo_endMethod_72 : decode b_Mo_endMethod 72 = .ok (.if_icmp .ne 24, 3) := by decide +kernel
theorem d_Mo_endMethod_75 : decode b_Mo_endMethod 75 = .ok (.aload_n 0, 1) := by decide +kernel
theorem d_Mo_endMethod_76 : decode b_Mo_endMethod 76 = .ok (.getfield 295, 3) := by decide +kernel
theorem d_Mo_endMethod_79 : decode b_Mo_endMethod 79 = .ok (.iload_n 2, 1) := by decide +kernel
theorem d_Mo_endMethod_80 : decode b_Mo_endMethod 80 = .ok (.baload, 1) := by decide +kernel
theorem d_Mo_endMethod_81 : decode b_Mo_endMethod 81 = .ok (.ifCond .ne 15, 3) := by decide +kernel
theorem d_Mo_endMethod_84 : decode b_Mo_endMethod 84 = .ok (.aload_n 0, 1) := by decide +kernel
theorem d_Mo_endMethod_85 : decode b_Mo_endMethod 85 = .ok (.bipush 9, 2) := by decide +kernel
theorem d_Mo_endMethod_87 : decode b_Mo_endMethod 87 = .ok (.aload_n 0, 1) := by decide +kernel
theorem d_Mo_endMethod_88 : decode b_Mo_endMethod 88 = .ok (.getfield 292, 3) := by decide +kernel
theorem d_Mo_endMethod_91 : decode b_Mo_endMethod 91 = .ok (.iload_n 2, 1) := by decide +kernel
theorem d_Mo_endMethod_92 : decode b_Mo_endMethod 92 = .ok (.iaload, 1) := by decide +kernel
theorem d_Mo_endMethod_93 : decode b_Mo_endMethod 93 = .ok (.invokevirtual 576, 3) := by decide +kernel
theorem d_Mo_endMethod_96 : decode b_Mo_endMethod 96 = .ok (.iinc 2 1, 3) := by decide +kernel
theorem d_Mo_endMethod_99 : decode b_Mo_endMethod 99 = .ok (.goto (-84), 3) := by decide +kernel
theorem d_Mo_endMethod_102 : decode b_Mo_endMethod 102 = .ok (.bipush 8, 2) := by decide +kernel
theorem d_Mo_endMethod_104 : decode b_Mo_endMethod 104 = .ok (.aload_n 0, 1) := by decide +kernel
theorem d_Mo_endMethod_105 : decode b_Mo_endMethod 105 = .ok (.getfield 642, 3) := by decide +kernel
theorem d_Mo_endMethod_108 : decode b_Mo_endMethod 108 = .ok (.imul, 1) := by decide +kernel
theorem d_Mo_endMethod_109 : decode b_Mo_endMethod 109 = .ok (.istore_n 2, 1) := by decide +kernel
theorem d_Mo_endMethod_110 : decode b_Mo_endMethod 110 = .ok (.iconst 0, 1) := by decide +kernel
theorem d_Mo_endMethod_111 : decode b_Mo_endMethod 111 = .ok (.istore_n 3, 1) := by decide +kernel
theorem d_Mo_endMethod_112 : decode b_Mo_endMethod 112 = .ok (.iload_n 3, 1) := by decide +kernel
theorem d_Mo_endMethod_113 : decode b_Mo_endMethod 113 = .ok (.aload_n 0, 1) := by decide +kernel
theorem d_Mo_endMethod_114 : decode b_Mo_endMethod 114 = .ok (.getfield 522, 3) := by decide +kernel
theorem d_Mo_endMethod_117 : decode b_Mo_endMethod 117 = .ok (.getfield 468, 3) := by decide +kernel
theorem d_Mo_endMethod_120 : decode b_Mo_endMethod 120 = .ok (.aload_n 0, 1) := by decide +kernel
theorem d_Mo_endMethod_121 : decode b_Mo_endMethod 121 = .ok (.getfield 642, 3) := by decide +kernel
theorem d_Mo_endMethod_124 : decode b_Mo_endMethod 124 = .ok (.iaload, 1) := by decide +kernel
theorem d_Mo_endMethod_125 : decode b_Mo_endMethod 125 = .ok (.if_icmp .ge 124, 3) := by decide +kernel
theorem d_Mo_endMethod_128 : decode b_Mo_endMethod 128 = .ok (.aload_n 0, 1) := by decide +kernel
theorem d_Mo_endMethod_129 : decode b_Mo_endMethod 129 = .ok (.getfield 522, 3) := by decide +kernel
theorem d_Mo_endMethod_132 : decode b_Mo_endMethod 132 = .ok (.getfield 713, 3) := by decide +kernel
theorem d_Mo_endMethod_135 : decode b_Mo_endMethod 135 = .ok (.iload_n 2, 1) := by decide +kernel
theorem d_Mo_endMethod_136 : decode b_Mo_endMethod 136 = .ok (.iload_n 3, 1) := by decide +kernel
theorem d_Mo_endMethod_137 : decode b_Mo_endMethod 137 = .ok (.iadd, 1) := by decide +kernel
theorem d_Mo_endMethod_138 : decode b_Mo_endMethod 138 = .ok (.aload_n 0, 1) := by decide +kernel
theorem d_Mo_endMethod_139 : decode b_Mo_endMethod 139 = .ok (.aload_n 0, 1) := by decide +kernel
theorem d_Mo_endMethod_140 : decode b_Mo_endMethod 140 = .ok (.getfield 522, 3) := by decide +kernel
theorem d_Mo_endMethod_143 : decode b_Mo_endMethod 143 = .ok (.getfield 713, 3) := by decide +kernel
theorem d_Mo_endMethod_146 : decode b_Mo_endMethod 146 = .ok (.iload_n 2, 1) := by decide +kernel
theorem d_Mo_endMethod_147 : decode b_Mo_endMethod 147 = .ok (.iload_n 3, 1) := by decide +kernel
theorem d_Mo_endMethod_148 : decode b_Mo_endMethod 148 = .ok (.iadd, 1) := by decide +kernel
theorem d_Mo_endMethod_149 : decode b_Mo_endMethod 149 = .ok (.iaload, 1) := by decide +kernel
theorem d_Mo_endMethod_150 : decode b_Mo_endMethod 150 = .ok (.invokevirtual 665, 3) := by decide +kernel
theorem d_Mo_endMethod_153 : decode b_Mo_endMethod 153 = .ok (.iastore, 1) := by decide +kernel
theorem d_Mo_endMethod_154 : decode b_Mo_endMethod 154 = .ok (.aload_n 0, 1) := by decide +kernel
theorem d_Mo_endMethod_155 : decode b_Mo_endMethod 155 = .ok (.getfield 522, 3) := by decide +kernel
theorem d_Mo_endMethod_158 : decode b_Mo_endMethod 158 = .ok (.getfield 716, 3) := by decide +kernel
theorem d_Mo_endMethod_161 : decode b_Mo_endMethod 161 = .ok (.iload_n 2, 1) := by decide +kernel
theorem d_Mo_endMethod_162 : decode b_Mo_endMethod 162 = .ok (.iload_n 3, 1) := by decide +kernel
theorem d_Mo_endMethod_163 : decode b_Mo_endMethod 163 = .ok (.iadd, 1) := by decide +kernel
theorem d_Mo_endMethod_164 : decode b_Mo_endMethod 164 = .ok (.aload_n 0, 1) := by decide +kernel
theorem d_Mo_endMethod_165 : decode b_Mo_endMethod 165 = .ok (.aload_n 0, 1) := by decide +kernel
theorem d_Mo_endMethod_166 : decode b_Mo_endMethod 166 = .ok (.getfield 522, 3) := by decide +kernel
theorem d_Mo_endMethod_169 : decode b_Mo_endMethod 169 = .ok (.getfield 716, 3) := by decide +kernel
theorem d_Mo_endMethod_172 : decode b_Mo_endMethod 172 = .ok (.iload_n 2, 1) := by decide +kernel
theorem d_Mo_endMethod_173 : decode b_Mo_endMethod 173 = .ok (.iload_n 3, 1) := by decide +kernel
theorem d_Mo_endMethod_174 : decode b_Mo_endMethod 174 = .ok (.iadd, 1) := by decide +kernel
theorem d_Mo_endMethod_175 : decode b_Mo_endMethod 175 = .ok (.iaload, 1) := by decide +kernel
theorem d_Mo_endMethod_176 : decode b_Mo_endMethod 176 = .ok (.invokevirtual 665, 3) := by decide +kernel
theorem d_Mo_endMethod_179 : decode b_Mo_endMethod 179 = .ok (.iastore, 1) := by decide +kernel
theorem d_Mo_endMethod_180 : decode b_Mo_endMethod 180 = .ok (.aload_n 0, 1) := by decide +kernel
theorem d_Mo_endMethod_181 : decode b_Mo_endMethod 181 = .ok (.getfield 522, 3) := by decide +kernel
theorem d_Mo_endMethod_184 : decode b_Mo_endMethod 184 = .ok (.getfield 719, 3) := by decide +kernel
theorem d_Mo_endMethod_187 : decode b_Mo_endMethod 187 = .ok (.iload_n 2, 1) := by decide +kernel
theorem d_Mo_endMethod_188 : decode b_Mo_endMethod 188 = .ok (.iload_n 3, 1) := by decide +kernel
theorem d_Mo_endMethod_189 : decode b_Mo_endMethod 189 = .ok (.iadd, 1) := by decide +kernel
theorem d_Mo_endMethod_190 : decode b_Mo_endMethod 190 = .ok (.aload_n 0, 1) := by decide +kernel
theorem d_Mo_endMethod_191 : decode b_Mo_endMethod 191 = .ok (.aload_n 0, 1) := by decide +kernel
theorem d_Mo_endMethod_192 : decode b_Mo_endMethod 192 = .ok (.getfield 522, 3) := by decide +kernel
theorem d_Mo_endMethod_195 : decode b_Mo_endMethod 195 = .ok (.getfield 719, 3) := by decide +kernel
theorem d_Mo_endMethod_198 : decode b_Mo_endMethod 198 = .ok (.iload_n 2, 1) := by decide +kernel
theorem d_Mo_endMethod_199 : decode b_Mo_endMethod 199 = .ok (.iload_n 3, 1) := by decide +kernel
theorem d_Mo_endMethod_200 : decode b_Mo_endMethod 200 = .ok (.iadd, 1) := by decide +kernel
theorem d_Mo_endMethod_201 : decode b_Mo_endMethod 201 = .ok (.iaload, 1) := by decide +kernel
theorem d_Mo_endMethod_202 : decode b_Mo_endMethod 202 = .ok (.invokevirtual 665, 3) := by decide +kernel
theorem d_Mo_endMethod_205 : decode b_Mo_endMethod 205 = .ok (.iastore, 1) := by decide +kernel
theorem d_Mo_endMethod_206 : decode b_Mo_endMethod 206 = .ok (.aload_n 0, 1) := by decide +kernel
theorem d_Mo_endMethod_207 : decode b_Mo_endMethod 207 = .ok (.getfield 522, 3) := by decide +kernel
theorem d_Mo_endMethod_210 : decode b_Mo_endMethod 210 = .ok (.getfield 713, 3) := by decide +kernel
theorem d_Mo_endMethod_213 : decode b_Mo_endMethod 213 = .ok (.iload_n 2, 1) := by decide +kernel
theorem d_Mo_endMethod_214 : decode b_Mo_endMethod 214 = .ok (.iload_n 3, 1) := by decide +kernel
theorem d_Mo_endMethod_215 : decode b_Mo_endMethod 215 = .ok (.iadd, 1) := by decide +kernel
theorem d_Mo_endMethod_216 : decode b_Mo_endMethod 216 = .ok (.iaload, 1) := by decide +kernel
theorem d_Mo_endMethod_217 : decode b_Mo_endMethod 217 = .ok (.aload_n 0, 1) := by decide +kernel
theorem d_Mo_endMethod_218 : decode b_Mo_endMethod 218 = .ok (.getfield 522, 3) := by decide +kernel
theorem d_Mo_endMethod_221 : decode b_Mo_endMethod 221 = .ok (.getfield 716, 3) := by decide +kernel
theorem d_Mo_endMethod_224 : decode b_Mo_endMethod 224 = .ok (.iload_n 2, 1) := by decide +kernel
theorem d_Mo_endMethod_225 : decode b_Mo_endMethod 225 = .ok (.iload_n 3, 1) := by decide +kernel
theorem d_Mo_endMethod_226 : decode b_Mo_endMethod 226 = .ok (.iadd, 1) := by decide +kernel
theorem d_Mo_endMethod_227 : decode b_Mo_endMethod 227 = .ok (.iaload, 1) := by decide +kernel
theorem d_Mo_endMethod_228 : decode b_Mo_endMethod 228 = .ok (.if_icmp .lt 15, 3) := by decide +kernel
theorem d_Mo_endMethod_231 : decode b_Mo_endMethod 231 = .ok (.aload_n 0, 1) := by decide +kernel
theorem d_Mo_endMethod_232 : decode b_Mo_endMethod 232 = .ok (.bipush 10, 2) := by decide +kernel
theorem d_Mo_endMethod_234 : decode b_Mo_endMethod 234 = .ok (.aload_n 0, 1) := by decide +kernel
theorem d_Mo_endMethod_235 : decode b_Mo_endMethod 235 = .ok (.getfield 299, 3) := by decide +kernel
theorem d_Mo_endMethod_238 : decode b_Mo_endMethod 238 = .ok (.iload_n 3, 1) := by decide +kernel
theorem d_Mo_endMethod_239 : decode b_Mo_endMethod 239 = .ok (.iaload, 1) := by decide +kernel
theorem d_Mo_endMethod_240 : decode b_Mo_endMethod 240 = .ok (.invokevirtual 576, 3) := by decide +kernel
theorem d_Mo_endMethod_243 : decode b_Mo_endMethod 243 = .ok (.iinc 3 1, 3) := by decide +kernel
theorem d_Mo_endMethod_246 : decode b_Mo_endMethod 246 = .ok (.goto (-134), 3) := by decide +kernel
theorem d_Mo_endMethod_249 : decode b_Mo_endMethod 249 = .ok (.iload_n 1, 1) := by decide +kernel
theorem d_Mo_endMethod_250 : decode b_Mo_endMethod 250 = .ok (.ifCond .ne 15, 3) := by decide +kernel
theorem d_Mo_endMethod_253 : decode b_Mo_endMethod 253 = .ok (.aload_n 0, 1) := by decide +kernel
theorem d_Mo_endMethod_254 : decode b_Mo_endMethod 254 = .ok (.bipush 8, 2) := by decide +kernel
theorem d_Mo_endMethod_256 : decode b_Mo_endMethod 256 = .ok (.aload_n 0, 1) := by decide +kernel
theorem d_Mo_endMethod_257 : decode b_Mo_endMethod 257 = .ok (.getfield 101, 3) := by decide +kernel
theorem d_Mo_endMethod_260 : decode b_Mo_endMethod 260 = .ok (.iconst 0, 1) := by decide +kernel
theorem d_Mo_endMethod_261 : decode b_Mo_endMethod 261 = .ok (.iaload, 1) := by decide +kernel
theorem d_Mo_endMethod_262 : decode b_Mo_endMethod 262 = .ok (.invokevirtual 576, 3) := by decide +kernel
theorem d_Mo_endMethod_265 : decode b_Mo_endMethod 265 = .ok (.aload_n 0, 1) := by decide +kernel
theorem d_Mo_endMethod_266 : decode b_Mo_endMethod 266 = .ok (.getfield 522, 3) := by decide +kernel
theorem d_Mo_endMethod_269 : decode b_Mo_endMethod 269 = .ok (.getfield 462, 3) := by decide +kernel
theorem d_Mo_endMethod_272 : decode b_Mo_endMethod 272 = .ok (.aload_n 0, 1) := by decide +kernel
theorem d_Mo_endMethod_273 : decode b_Mo_endMethod 273 = .ok (.getfield 642, 3) := by decide +kernel
theorem d_Mo_endMethod_276 : decode b_Mo_endMethod 276 = .ok (.iaload, 1) := by decide +kernel
theorem d_Mo_endMethod_277 : decode b_Mo_endMethod 277 = .ok (.istore_n 3, 1) := by decide +kernel
theorem d_Mo_endMethod_278 : decode b_Mo_endMethod 278 = .ok (.iload_n 3, 1) := by decide +kernel
theorem d_Mo_endMethod_279 : decode b_Mo_endMethod 279 = .ok (.aload_n 0, 1) := by decide +kernel
theorem d_Mo_endMethod_280 : decode b_Mo_endMethod 280 = .ok (.getfield 522, 3) := by decide +kernel
theorem d_Mo_endMethod_283 : decode b_Mo_endMethod 283 = .ok (.getfield 471, 3) := by decide +kernel
theorem d_Mo_endMethod_286 : decode b_Mo_endMethod 286 = .ok (.if_icmp .ge 131, 3) := by decide +kernel
theorem d_Mo_endMethod_289 : decode b_Mo_endMethod 289 = .ok (.aload_n 0, 1) := by decide +kernel
theorem d_Mo_endMethod_290 : decode b_Mo_endMethod 290 = .ok (.getfield 522, 3) := by decide +kernel
theorem d_Mo_endMethod_293 : decode b_Mo_endMethod 293 = .ok (.getfield 674, 3) := by decide +kernel
theorem d_Mo_endMethod_296 : decode b_Mo_endMethod 296 = .ok (.iload_n 3, 1) := by decide +kernel
theorem d_Mo_endMethod_297 : decode b_Mo_endMethod 297 = .ok (.baload, 1) := by decide +kernel
theorem d_Mo_endMethod_298 : decode b_Mo_endMethod 298 = .ok (.istore 4, 2) := by decide +kernel
theorem d_Mo_endMethod_300 : decode b_Mo_endMethod 300 = .ok (.iload 4, 2) := by decide +kernel
theorem d_Mo_endMethod_302 : decode b_Mo_endMethod 302 = .ok (.bipush 23, 2) := by decide +kernel
theorem d_Mo_endMethod_304 : decode b_Mo_endMethod 304 = .ok (.if_icmp .lt 35, 3) := by decide +kernel
theorem d_Mo_endMethod_307 : decode b_Mo_endMethod 307 = .ok (.iload 4, 2) := by decide +kernel
theorem d_Mo_endMethod_309 : decode b_Mo_endMethod 309 = .ok (.bipush 39, 2) := by decide +kernel
theorem d_Mo_endMethod_311 : decode b_Mo_endMethod 311 = .ok (.if_icmp .gt 28, 3) := by decide +kernel
theorem d_Mo_endMethod_314 : decode b_Mo_endMethod 314 = .ok (.aload_n 0, 1) := by decide +kernel
theorem d_Mo_endMethod_315 : decode b_Mo_endMethod 315 = .ok (.getfield 522, 3) := by decide +kernel
theorem d_Mo_endMethod_318 : decode b_Mo_endMethod 318 = .ok (.getfield 677, 3) := by decide +kernel
theorem d_Mo_endMethod_321 : decode b_Mo_endMethod 321 = .ok (.iload_n 3, 1) := by decide +kernel
theorem d_Mo_endMethod_322 : decode b_Mo_endMethod 322 = .ok (.aload_n 0, 1) := by decide +kernel
theorem d_Mo_endMethod_323 : decode b_Mo_endMethod 323 = .ok (.aload_n 0, 1) := by decide +kernel
theorem d_Mo_endMethod_324 : decode b_Mo_endMethod 324 = .ok (.getfield 522, 3) := by decide +kernel
theorem d_Mo_endMethod_327 : decode b_Mo_endMethod 327 = .ok (.getfield 677, 3) := by decide +kernel
theorem d_Mo_endMethod_330 : decode b_Mo_endMethod 330 = .ok (.iload_n 3, 1) := by decide +kernel
theorem d_Mo_endMethod_331 : decode b_Mo_endMethod 331 = .ok (.iaload, 1) := by decide +kernel
theorem d_Mo_endMethod_332 : decode b_Mo_endMethod 332 = .ok (.invokevirtual 665, 3) := by decide +kernel
theorem d_Mo_endMethod_335 : decode b_Mo_endMethod 335 = .ok (.iastore, 1) := by decide +kernel
theorem d_Mo_endMethod_336 : decode b_Mo_endMethod 336 = .ok (.goto 75, 3) := by decide +kernel
theorem d_Mo_endMethod_339 : decode b_Mo_endMethod 339 = .ok (.iload 4, 2) := by decide +kernel
theorem d_Mo_endMethod_341 : decode b_Mo_endMethod 341 = .ok (.bipush 40, 2) := by decide +kernel
theorem d_Mo_endMethod_343 : decode b_Mo_endMethod 343 = .ok (.if_icmp .ne 68, 3) := by decide +kernel
theorem d_Mo_endMethod_346 : decode b_Mo_endMethod 346 = .ok (.aload_n 0, 1) := by decide +kernel
theorem d_Mo_endMethod_347 : decode b_Mo_endMethod 347 = .ok (.getfield 522, 3) := by decide +kernel
theorem d_Mo_endMethod_350 : decode b_Mo_endMethod 350 = .ok (.getfield 680, 3) := by decide +kernel
theorem d_Mo_endMethod_353 : decode b_Mo_endMethod 353 = .ok (.iload_n 3, 1) := by decide +kernel
theorem d_Mo_endMethod_354 : decode b_Mo_endMethod 354 = .ok (.iaload, 1) := by decide +kernel
theorem d_Mo_endMethod_355 : decode b_Mo_endMethod 355 = .ok (.istore 5, 2) := by decide +kernel
theorem d_Mo_endMethod_357 : decode b_Mo_endMethod 357 = .ok (.iload 5, 2) := by decide +kernel
theorem d_Mo_endMethod_359 : decode b_Mo_endMethod 359 = .ok (.aload_n 0, 1) := by decide +kernel
theorem d_Mo_endMethod_360 : decode b_Mo_endMethod 360 = .ok (.getfield 522, 3) := by decide +kernel
theorem d_Mo_endMethod_363 : decode b_Mo_endMethod 363 = .ok (.getfield 680, 3) := by decide +kernel
theorem d_Mo_endMethod_366 : decode b_Mo_endMethod 366 = .ok (.iload_n 3, 1) := by decide +kernel
theorem d_Mo_endMethod_367 : decode b_Mo_endMethod 367 = .ok (.iaload, 1) := by decide +kernel
theorem d_Mo_endMethod_368 : decode b_Mo_endMethod 368 = .ok (.aload_n 0, 1) := by decide +kernel
theorem d_Mo_endMethod_369 : decode b_Mo_endMethod 369 = .ok (.getfield 522, 3) := by decide +kernel
theorem d_Mo_endMethod_372 : decode b_Mo_endMethod 372 = .ok (.getfield 683, 3) := by decide +kernel
theorem d_Mo_endMethod_375 : decode b_Mo_endMethod 375 = .ok (.iload_n 3, 1) := by decide +kernel
theorem d_Mo_endMethod_376 : decode b_Mo_endMethod 376 = .ok (.iaload, 1) := by decide +kernel
theorem d_Mo_endMethod_377 : decode b_Mo_endMethod 377 = .ok (.iadd, 1) := by decide +kernel
theorem d_Mo_endMethod_378 : decode b_Mo_endMethod 378 = .ok (.if_icmp .ge 33, 3) := by decide +kernel
theorem d_Mo_endMethod_381 : decode b_Mo_endMethod 381 = .ok (.aload_n 0, 1) := by decide +kernel
theorem d_Mo_endMethod_382 : decode b_Mo_endMethod 382 = .ok (.getfield 522, 3) := by decide +kernel
theorem d_Mo_endMethod_385 : decode b_Mo_endMethod 385 = .ok (.getfield 689, 3) := by decide +kernel
theorem d_Mo_endMethod_388 : decode b_Mo_endMethod 388 = .ok (.iload 5, 2) := by decide +kernel
theorem d_Mo_endMethod_390 : decode b_Mo_endMethod 390 = .ok (.aload_n 0, 1) := by decide +kernel
theorem d_Mo_endMethod_391 : decode b_Mo_endMethod 391 = .ok (.aload_n 0, 1) := by decide +kernel
theorem d_Mo_endMethod_392 : decode b_Mo_endMethod 392 = .ok (.getfield 522, 3) := by decide +kernel
theorem d_Mo_endMethod_395 : decode b_Mo_endMethod 395 = .ok (.getfield 689, 3) := by decide +kernel
theorem d_Mo_endMethod_398 : decode b_Mo_endMethod 398 = .ok (.iload 5, 2) := by decide +kernel
theorem d_Mo_endMethod_400 : decode b_Mo_endMethod 400 = .ok (.iaload, 1) := by decide +kernel
theorem d_Mo_endMethod_401 : decode b_Mo_endMethod 401 = .ok (.invokevirtual 665, 3) := by decide +kernel
theorem d_Mo_endMethod_404 : decode b_Mo_endMethod 404 = .ok (.iastore, 1) := by decide +kernel
theorem d_Mo_endMethod_405 : decode b_Mo_endMethod 405 = .ok (.iinc 5 1, 3) := by decide +kernel
theorem d_Mo_endMethod_408 : decode b_Mo_endMethod 408 = .ok (.goto (-51), 3) := by decide +kernel
theorem d_Mo_endMethod_411 : decode b_Mo_endMethod 411 = .ok (.iinc 3 1, 3) := by decide +kernel
theorem d_Mo_endMethod_414 : decode b_Mo_endMethod 414 = .ok (.goto (-136), 3) := by decide +kernel
theorem d_Mo_endMethod_417 : decode b_Mo_endMethod 417 = .ok (.return_, 1) := by decide +kernel
abbrev ra_Mo_endMethod (mc ms : Nat) : Room := { frames := 1, cells := mc, slots := ms, locals := 22 }
def wja_Mo_endMethod_411 (mc ms : Nat) (Post : Ly → St → Nat → Nat → Prop) (PX : Ly → St → Nat → Nat → Prop) (K_278 : Ly → St → Nat → Nat → Int32 → Prop) (a0 : Nat) (y_j411 : Ly) (s_j411 : St) (d_j411 e_j411 : Nat) (x3j411 : Int32) : Prop := (d_j411 ≤ mc ∧ e_j411 ≤ ms) ∧ K_278 y_j411 s_j411 d_j411 e_j411 (x3j411 + 1)
def wba_Mo_endMethod_357 (mc ms : Nat) (Post : Ly → St → Nat → Nat → Prop) (PX : Ly → St → Nat → Nat → Prop) (K_278 : Ly → St → Nat → Nat → Int32 → Prop) (K_357 : Ly → St → Nat → Nat → Int32 → Int32 → Prop) (a0 : Nat) (y_h357 : Ly) (s_h357 : St) (d_h357 e_h357 : Nat) (x3h357 : Int32) (x5h357 : Int32) : Prop := (d_h357 ≤ mc ∧ e_h357 ≤ ms) ∧ ∃ b_21 : Nat, sO s_h357 a0 45 = some b_21 ∧ cl b_21 = 13 ∧ xA y_h357 s_h357 b_21 32 x3h357 (fun x_24 : Int32 => xA y_h357 s_h357 b_21 33 x3h357 (fun x_25 : Int32 => (((x_24 + x_25) ≤ x5h357 → wja_Mo_endMethod_411 mc ms Post PX K_278 a0 y_h357 s_h357 d_h357 e_h357 x3h357) ∧ (¬ ((x_24 + x_25) ≤ x5h357) → xA y_h357 s_h357 b_21 36 x5h357 (fun x_26 : Int32 => wu_Mo_labelOf y_h357 (fun (s_28 : St) (r_27 : Int32) => xS y_h357 s_28 b_21 36 x5h357 r_27 (fun s_29 : St => K_357 y_h357 s_29 d_h357 e_h357 x3h357 (x5h357 + 1))) s_h357 a0 x_26)))))
def wla_Mo_endMethod_357 (mc ms : Nat) (Post : Ly → St → Nat → Nat → Prop) (PX : Ly → St → Nat → Nat → Prop) (K_278 : Ly → St → Nat → Nat → Int32 → Prop) (a0 : Nat) (y_h357 : Ly) (s_h357 : St) (d_h357 e_h357 : Nat) (x3h357 : Int32) (x5h357 : Int32) : Prop := ∃ (I : Ly → St → Nat → Nat → Int32 → Int32 → Prop) (μ : Ly → St → Nat → Nat → Int32 → Int32 → Nat), I y_h357 s_h357 d_h357 e_h357 x3h357 x5h357 ∧ ∀ (u1 : Ly) (u2 : St) (u3 u4 : Nat) (t0 : Int32) (t1 : Int32), I u1 u2 u3 u4 t0 t1 → wba_Mo_endMethod_357 mc ms Post PX K_278 (fun z1 z2 z3 z4 t0q t1q => I z1 z2 z3 z4 t0q t1q ∧ μ z1 z2 z3 z4 t0q t1q < μ u1 u2 u3 u4 t0 t1) a0 u1 u2 u3 u4 t0 t1
def wja_Mo_endMethod_339 (mc ms : Nat) (Post : Ly → St → Nat → Nat → Prop) (PX : Ly → St → Nat → Nat → Prop) (K_278 : Ly → St → Nat → Nat → Int32 → Prop) (a0 : Nat) (y_j339 : Ly) (s_j339 : St) (d_j339 e_j339 : Nat) (x3j339 : Int32) (x4j339 : Int32) : Prop := (d_j339 ≤ mc ∧ e_j339 ≤ ms) ∧ ((¬ x4j339 = 40 → wja_Mo_endMethod_411 mc ms Post PX K_278 a0 y_j339 s_j339 d_j339 e_j339 x3j339) ∧ (x4j339 = 40 → ∃ b_17 : Nat, sO s_j339 a0 45 = some b_17 ∧ cl b_17 = 13 ∧ xA y_j339 s_j339 b_17 32 x3j339 (fun x_20 : Int32 => wla_Mo_endMethod_357 mc ms Post PX K_278 a0 y_j339 s_j339 d_j339 e_j339 x3j339 x_20)))
def wba_Mo_endMethod_278 (mc ms : Nat) (Post : Ly → St → Nat → Nat → Prop) (PX : Ly → St → Nat → Nat → Prop) (K_278 : Ly → St → Nat → Nat → Int32 → Prop) (a0 : Nat) (y_h278 : Ly) (s_h278 : St) (d_h278 e_h278 : Nat) (x3h278 : Int32) : Prop := (d_h278 ≤ mc ∧ e_h278 ≤ ms) ∧ ∃ b_13 : Nat, sO s_h278 a0 45 = some b_13 ∧ cl b_13 = 13 ∧ (((sV s_h278 b_13 35) ≤ x3h278 → Post y_h278 s_h278 d_h278 e_h278) ∧ (¬ ((sV s_h278 b_13 35) ≤ x3h278) → xA y_h278 s_h278 b_13 30 x3h278 (fun x_16 : Int32 => ((x_16 < 23 → wja_Mo_endMethod_339 mc ms Post PX K_278 a0 y_h278 s_h278 d_h278 e_h278 x3h278 x_16) ∧ (¬ (x_16 < 23) → ((39 < x_16 → wja_Mo_endMethod_339 mc ms Post PX K_278 a0 y_h278 s_h278 d_h278 e_h278 x3h278 x_16) ∧ (¬ (39 < x_16) → xA y_h278 s_h278 b_13 31 x3h278 (fun x_30 : Int32 => wu_Mo_labelOf y_h278 (fun (s_32 : St) (r_31 : Int32) => xS y_h278 s_32 b_13 31 x3h278 r_31 (fun s_33 : St => wja_Mo_endMethod_411 mc ms Post PX K_278 a0 y_h278 s_33 d_h278 e_h278 x3h278)) s_h278 a0 x_30))))))))
def wla_Mo_endMethod_278 (mc ms : Nat) (Post : Ly → St → Nat → Nat → Prop) (PX : Ly → St → Nat → Nat → Prop) (a0 : Nat) (y_h278 : Ly) (s_h278 : St) (d_h278 e_h278 : Nat) (x3h278 : Int32) : Prop := ∃ (I : Ly → St → Nat → Nat → Int32 → Prop) (μ : Ly → St → Nat → Nat → Int32 → Nat), I y_h278 s_h278 d_h278 e_h278 x3h278 ∧ ∀ (u1 : Ly) (u2 : St) (u3 u4 : Nat) (t0 : Int32), I u1 u2 u3 u4 t0 → wba_Mo_endMethod_278 mc ms Post PX (fun z1 z2 z3 z4 t0q => I z1 z2 z3 z4 t0q ∧ μ z1 z2 z3 z4 t0q < μ u1 u2 u3 u4 t0) a0 u1 u2 u3 u4 t0
def wja_Mo_endMethod_265 (mc ms : Nat) (Post : Ly → St → Nat → Nat → Prop) (PX : Ly → St → Nat → Nat → Prop) (a0 : Nat) (y_j265 : Ly) (s_j265 : St) (d_j265 e_j265 : Nat) : Prop := (d_j265 ≤ mc ∧ e_j265 ≤ ms) ∧ ∃ b_9 : Nat, sO s_j265 a0 45 = some b_9 ∧ cl b_9 = 13 ∧ xA y_j265 s_j265 b_9 23 (sV s_j265 a0 54) (fun x_12 : Int32 => wla_Mo_endMethod_278 mc ms Post PX a0 y_j265 s_j265 d_j265 e_j265 x_12)
def wja_Mo_endMethod_243 (mc ms : Nat) (Post : Ly → St → Nat → Nat → Prop) (PX : Ly → St → Nat → Nat → Prop) (K_112 : Ly → St → Nat → Nat → Int32 → Int32 → Int32 → Prop) (a0 : Nat) (y_j243 : Ly) (s_j243 : St) (d_j243 e_j243 : Nat) (x1j243 : Int32) (x2j243 : Int32) (x3j243 : Int32) : Prop := (d_j243 ≤ mc ∧ e_j243 ≤ ms) ∧ K_112 y_j243 s_j243 d_j243 e_j243 x1j243 x2j243 (x3j243 + 1)
def wba_Mo_endMethod_112 (mc ms : Nat) (Post : Ly → St → Nat → Nat → Prop) (PX : Ly → St → Nat → Nat → Prop) (K_112 : Ly → St → Nat → Nat → Int32 → Int32 → Int32 → Prop) (a0 : Nat) (y_h112 : Ly) (s_h112 : St) (d_h112 e_h112 : Nat) (x1h112 : Int32) (x2h112 : Int32) (x3h112 : Int32) : Prop := (d_h112 ≤ mc ∧ e_h112 ≤ ms) ∧ ∃ b_5 : Nat, sO s_h112 a0 45 = some b_5 ∧ cl b_5 = 13 ∧ xA y_h112 s_h112 b_5 25 (sV s_h112 a0 54) (fun x_8 : Int32 => ((x_8 ≤ x3h112 → ((¬ x1h112 = 0 → wja_Mo_endMethod_265 mc ms Post PX a0 y_h112 s_h112 d_h112 e_h112) ∧ (x1h112 = 0 → xA y_h112 s_h112 a0 41 0 (fun x_34 : Int32 => ∃ mc_40 ms_41 : Nat, (d_h112 + mc_40 ≤ mc ∧ e_h112 + ms_41 ≤ ms) ∧ wx_Mo_refuse mc_40 ms_41 y_h112 (fun (y_37 : Ly) (s_36 : St) (d_38 e_39 : Nat) => (d_h112 + d_38 ≤ mc ∧ e_h112 + e_39 ≤ ms) ∧ wja_Mo_endMethod_265 mc ms Post PX a0 y_37 s_36 (d_h112 + d_38) (e_h112 + e_39)) (fun (y_37 : Ly) (s_36 : St) (d_38 e_39 : Nat) => ((d_h112 + d_38 ≤ mc ∧ e_h112 + e_39 ≤ ms) ∧ PX y_37 s_36 (d_h112 + d_38) (e_h112 + e_39))) s_h112 a0 8 x_34)))) ∧ (¬ (x_8 ≤ x3h112) → xA y_h112 s_h112 b_5 26 (x2h112 + x3h112) (fun x_43 : Int32 => wu_Mo_labelOf y_h112 (fun (s_45 : St) (r_44 : Int32) => xS y_h112 s_45 b_5 26 (x2h112 + x3h112) r_44 (fun s_46 : St => ∃ b_47 : Nat, sO s_46 a0 45 = some b_47 ∧ cl b_47 = 13 ∧ xA y_h112 s_46 b_47 27 (x2h112 + x3h112) (fun x_50 : Int32 => wu_Mo_labelOf y_h112 (fun (s_52 : St) (r_51 : Int32) => xS y_h112 s_52 b_47 27 (x2h112 + x3h112) r_51 (fun s_53 : St => ∃ b_54 : Nat, sO s_53 a0 45 = some b_54 ∧ cl b_54 = 13 ∧ xA y_h112 s_53 b_54 28 (x2h112 + x3h112) (fun x_57 : Int32 => wu_Mo_labelOf y_h112 (fun (s_59 : St) (r_58 : Int32) => xS y_h112 s_59 b_54 28 (x2h112 + x3h112) r_58 (fun s_60 : St => ∃ b_61 : Nat, sO s_60 a0 45 = some b_61 ∧ cl b_61 = 13 ∧ xA y_h112 s_60 b_61 26 (x2h112 + x3h112) (fun x_64 : Int32 => xA y_h112 s_60 b_61 27 (x2h112 + x3h112) (fun x_65 : Int32 => ((x_64 < x_65 → wja_Mo_endMethod_243 mc ms Post PX K_112 a0 y_h112 s_60 d_h112 e_h112 x1h112 x2h112 x3h112) ∧ (¬ (x_64 < x_65) → xA y_h112 s_60 a0 66 x3h112 (fun x_66 : Int32 => ∃ mc_72 ms_73 : Nat, (d_h112 + mc_72 ≤ mc ∧ e_h112 + ms_73 ≤ ms) ∧ wx_Mo_refuse mc_72 ms_73 y_h112 (fun (y_69 : Ly) (s_68 : St) (d_70 e_71 : Nat) => (d_h112 + d_70 ≤ mc ∧ e_h112 + e_71 ≤ ms) ∧ wja_Mo_endMethod_243 mc ms Post PX K_112 a0 y_69 s_68 (d_h112 + d_70) (e_h112 + e_71) x1h112 x2h112 x3h112) (fun (y_69 : Ly) (s_68 : St) (d_70 e_71 : Nat) => ((d_h112 + d_70 ≤ mc ∧ e_h112 + e_71 ≤ ms) ∧ PX y_69 s_68 (d_h112 + d_70) (e_h112 + e_71))) s_60 a0 10 x_66))))))) s_53 a0 x_57))) s_46 a0 x_50))) s_h112 a0 x_43))))
def wla_Mo_endMethod_112 (mc ms : Nat) (Post : Ly → St → Nat → Nat → Prop) (PX : Ly → St → Nat → Nat → Prop) (a0 : Nat) (y_h112 : Ly) (s_h112 : St) (d_h112 e_h112 : Nat) (x1h112 : Int32) (x2h112 : Int32) (x3h112 : Int32) : Prop := ∃ (I : Ly → St → Nat → Nat → Int32 → Int32 → Int32 → Prop) (μ : Ly → St → Nat → Nat → Int32 → Int32 → Int32 → Nat), I y_h112 s_h112 d_h112 e_h112 x1h112 x2h112 x3h112 ∧ ∀ (u1 : Ly) (u2 : St) (u3 u4 : Nat) (t0 : Int32) (t1 : Int32) (t2 : Int32), I u1 u2 u3 u4 t0 t1 t2 → wba_Mo_endMethod_112 mc ms Post PX (fun z1 z2 z3 z4 t0q t1q t2q => I z1 z2 z3 z4 t0q t1q t2q ∧ μ z1 z2 z3 z4 t0q t1q t2q < μ u1 u2 u3 u4 t0 t1 t2) a0 u1 u2 u3 u4 t0 t1 t2
def wja_Mo_endMethod_96 (mc ms : Nat) (Post : Ly → St → Nat → Nat → Prop) (PX : Ly → St → Nat → Nat → Prop) (K_15 : Ly → St → Nat → Nat → Int32 → Int32 → Prop) (a0 : Nat) (y_j96 : Ly) (s_j96 : St) (d_j96 e_j96 : Nat) (x1j96 : Int32) (x2j96 : Int32) : Prop := (d_j96 ≤ mc ∧ e_j96 ≤ ms) ∧ K_15 y_j96 s_j96 d_j96 e_j96 x1j96 (x2j96 + 1)
def wja_Mo_endMethod_84 (mc ms : Nat) (Post : Ly → St → Nat → Nat → Prop) (PX : Ly → St → Nat → Nat → Prop) (K_15 : Ly → St → Nat → Nat → Int32 → Int32 → Prop) (a0 : Nat) (y_j84 : Ly) (s_j84 : St) (d_j84 e_j84 : Nat) (x1j84 : Int32) (x2j84 : Int32) : Prop := (d_j84 ≤ mc ∧ e_j84 ≤ ms) ∧ xA y_j84 s_j84 a0 62 x2j84 (fun x_77 : Int32 => ∃ mc_83 ms_84 : Nat, (d_j84 + mc_83 ≤ mc ∧ e_j84 + ms_84 ≤ ms) ∧ wx_Mo_refuse mc_83 ms_84 y_j84 (fun (y_80 : Ly) (s_79 : St) (d_81 e_82 : Nat) => (d_j84 + d_81 ≤ mc ∧ e_j84 + e_82 ≤ ms) ∧ wja_Mo_endMethod_96 mc ms Post PX K_15 a0 y_80 s_79 (d_j84 + d_81) (e_j84 + e_82) x1j84 x2j84) (fun (y_80 : Ly) (s_79 : St) (d_81 e_82 : Nat) => ((d_j84 + d_81 ≤ mc ∧ e_j84 + e_82 ≤ ms) ∧ PX y_80 s_79 (d_j84 + d_81) (e_j84 + e_82))) s_j84 a0 9 x_77)
def wja_Mo_endMethod_53 (mc ms : Nat) (Post : Ly → St → Nat → Nat → Prop) (PX : Ly → St → Nat → Nat → Prop) (K_15 : Ly → St → Nat → Nat → Int32 → Int32 → Prop) (a0 : Nat) (y_j53 : Ly) (s_j53 : St) (d_j53 e_j53 : Nat) (x1j53 : Int32) (x2j53 : Int32) (z0j53 : Int32) : Prop := (d_j53 ≤ mc ∧ e_j53 ≤ ms) ∧ xA y_j53 s_j53 a0 61 x2j53 (fun x_76 : Int32 => ((x_76 = (-2147483648) → wja_Mo_endMethod_84 mc ms Post PX K_15 a0 y_j53 s_j53 d_j53 e_j53 x1j53 x2j53) ∧ (¬ (x_76 = (-2147483648)) → ((z0j53 < 0 → wja_Mo_endMethod_84 mc ms Post PX K_15 a0 y_j53 s_j53 d_j53 e_j53 x1j53 x2j53) ∧ (¬ (z0j53 < 0) → ((¬ z0j53 = x1j53 → wja_Mo_endMethod_96 mc ms Post PX K_15 a0 y_j53 s_j53 d_j53 e_j53 x1j53 x2j53) ∧ (z0j53 = x1j53 → xA y_j53 s_j53 a0 63 x2j53 (fun x_86 : Int32 => ((¬ x_86 = 0 → wja_Mo_endMethod_96 mc ms Post PX K_15 a0 y_j53 s_j53 d_j53 e_j53 x1j53 x2j53) ∧ (x_86 = 0 → wja_Mo_endMethod_84 mc ms Post PX K_15 a0 y_j53 s_j53 d_j53 e_j53 x1j53 x2j53))))))))))
def wba_Mo_endMethod_15 (mc ms : Nat) (Post : Ly → St → Nat → Nat → Prop) (PX : Ly → St → Nat → Nat → Prop) (K_15 : Ly → St → Nat → Nat → Int32 → Int32 → Prop) (a0 : Nat) (y_h15 : Ly) (s_h15 : St) (d_h15 e_h15 : Nat) (x1h15 : Int32) (x2h15 : Int32) : Prop := (d_h15 ≤ mc ∧ e_h15 ≤ ms) ∧ (((sV s_h15 a0 64) ≤ x2h15 → wla_Mo_endMethod_112 mc ms Post PX a0 y_h15 s_h15 d_h15 e_h15 x1h15 (8 * (sV s_h15 a0 54)) 0) ∧ (¬ ((sV s_h15 a0 64) ≤ x2h15) → xA y_h15 s_h15 a0 61 x2h15 (fun x_75 : Int32 => ((0 ≤ x_75 → xA y_h15 s_h15 a0 61 x2h15 (fun x_87 : Int32 => wu_Mo_labelOf y_h15 (fun (s_89 : St) (r_88 : Int32) => wja_Mo_endMethod_53 mc ms Post PX K_15 a0 y_h15 s_89 d_h15 e_h15 x1h15 x2h15 r_88) s_h15 a0 x_87)) ∧ (¬ (0 ≤ x_75) → xA y_h15 s_h15 a0 61 x2h15 (fun x_90 : Int32 => wja_Mo_endMethod_53 mc ms Post PX K_15 a0 y_h15 s_h15 d_h15 e_h15 x1h15 x2h15 ((-1) - x_90)))))))
def wla_Mo_endMethod_15 (mc ms : Nat) (Post : Ly → St → Nat → Nat → Prop) (PX : Ly → St → Nat → Nat → Prop) (a0 : Nat) (y_h15 : Ly) (s_h15 : St) (d_h15 e_h15 : Nat) (x1h15 : Int32) (x2h15 : Int32) : Prop := ∃ (I : Ly → St → Nat → Nat → Int32 → Int32 → Prop) (μ : Ly → St → Nat → Nat → Int32 → Int32 → Nat), I y_h15 s_h15 d_h15 e_h15 x1h15 x2h15 ∧ ∀ (u1 : Ly) (u2 : St) (u3 u4 : Nat) (t0 : Int32) (t1 : Int32), I u1 u2 u3 u4 t0 t1 → wba_Mo_endMethod_15 mc ms Post PX (fun z1 z2 z3 z4 t0q t1q => I z1 z2 z3 z4 t0q t1q ∧ μ z1 z2 z3 z4 t0q t1q < μ u1 u2 u3 u4 t0 t1) a0 u1 u2 u3 u4 t0 t1
def wx_Mo_endMethod (mc ms : Nat) (y : Ly) (Post : Ly → St → Nat → Nat → Prop) (PX : Ly → St → Nat → Nat → Prop) (σ : St) (a0 : Nat) : Prop := ∃ b_1 : Nat, sO σ a0 45 = some b_1 ∧ cl b_1 = 13 ∧ xA y σ b_1 24 (sV σ a0 54) (fun x_4 : Int32 => wla_Mo_endMethod_15 mc ms Post PX a0 y σ 0 0 x_4 0)
set_option maxHeartbeats 4000000 in
set_option maxRecDepth 100000 in
theorem cx_Mo_endMethod (l : Launch) (D : va_G) (g : Nat → ClassId) (ad : Nat → Nat) (mc ms : Nat) (y : Ly) (Post : Ly → St → Nat → Nat → Prop) (PX : Ly → St → Nat → Nat → Prop) (σ : St) (a0 : Nat) (sz uz : Nat) (h_a0 : cl a0 = 14) (h : wx_Mo_endMethod mc ms y Post PX σ a0) : vx_Met l y_Mo_endMethod (mw y_Mo_endMethod b_Mo_endMethod 6 (none)) (ra_Mo_endMethod mc ms) (PCu g D [] [.ref (ad a0)] sz uz (ws g ad y σ)) (va_Qv (fun (u : Ly × St × Nat × Nat) => Post u.1 u.2.1 u.2.2.1 u.2.2.2) (QU D (va_A (ws g ad y σ) sz) (fun u => ws g ad u.1 u.2.1) sz uz (fun u => u.2.2.1) (fun u => u.2.2.2)) (va_A (ws g ad y σ) sz)) (XQ D g ad (va_A (ws g ad y σ) sz) sz uz PX) mc ms (va_A (ws g ad y σ) sz) := by
  refine ofVx (by decide +kernel) (Nat.le_of_ble_eq_true rfl) ?_
  intro p e s m args below meth c A Q ls H locs G hsz hP hD hS hl hret hretX
  subst hsz
  have hl : lv_has ls 6 [(0, .ref (ad a0))] := hl
  have hd : 0 ≤ mc ∧ 0 ≤ ms := ⟨Nat.zero_le _, Nat.zero_le _⟩
  unfold wx_Mo_endMethod at h
  refine lv_aload_n G.1 G.2.1 d_Mo_endMethod_0 rfl (lv_at hl 0 rfl) ?_
  obtain ⟨b_1, e_2, c_3, h⟩ := h
  refine ugf (v := .ref (ad b_1)) G hP h_a0 iMo rfl 45 (by decide) rfl q3109 rfl (by show va_rf ((sO σ a0 45).map ad) = _; rw [e_2]; rfl) d_Mo_endMethod_1 ?_
  refine ugfN (v := .ref (yP y b_1 24)) G hP c_3 iMw rfl 24 (by decide) rfl q2752 rfl rfl d_Mo_endMethod_4 ?_
  refine lv_aload_n G.1 G.2.1 d_Mo_endMethod_7 rfl (lv_at hl 0 rfl) ?_
  refine ugf (v := .int (sV σ a0 54)) G hP h_a0 iMo rfl 54 (by decide) rfl q3118 rfl rfl d_Mo_endMethod_8 ?_
  refine uiald G hP (kdp c_3 rfl) (typ c_3 rfl) h d_Mo_endMethod_11 (fun x_4 h => ?_)
  refine lv_istore_n (lv' := [(1, .int x_4), (0, .ref (ad a0))]) G.1 G.2.1 d_Mo_endMethod_12 rfl hl (by decide) rfl (fun ls hl => ?_)
  refine lv_iconst (v := 0) G.1 G.2.1 d_Mo_endMethod_13 (by decide) ?_
  refine lv_istore_n (lv' := [(2, .int 0), (1, .int x_4), (0, .ref (ad a0))]) G.1 G.2.1 d_Mo_endMethod_14 rfl hl (by decide) rfl (fun ls hl => ?_)
  unfold wla_Mo_endMethod_15 at h
  obtain ⟨I_15, μ_15, hI_15, hB_15⟩ := h
  have L_15 : ∀ (n_15 : Nat) (y_h15 : Ly) (s_h15 : St) (d_h15 e_h15 : Nat) (x1h15 : Int32) (x2h15 : Int32), μ_15 y_h15 s_h15 d_h15 e_h15 x1h15 x2h15 < n_15 → I_15 y_h15 s_h15 d_h15 e_h15 x1h15 x2h15 → ∀ (H : Heap) (locs : List Loc), va_P D CL (ws g ad y_h15 s_h15) H → va_D A (ws g ad y_h15 s_h15) → va_S A s.heap H locs → ∀ ls, lv_has ls 6 [(0, .ref (ad a0)), (1, .int x1h15), (2, .int x2h15)] → W p l e (ra_Mo_endMethod mc ms) s m args below meth c H locs d_h15 e_h15 Q (F0 m 15 ls []) := by
    intro n_15
    induction n_15 with
    | zero => intro y_h15 s_h15 d_h15 e_h15 x1h15 x2h15 hμ; exact absurd hμ (Nat.not_lt_zero _)
    | succ n_15 ih_15 =>
      intro y_h15 s_h15 d_h15 e_h15 x1h15 x2h15 hμ_15 hJ H locs hP hD hS ls hl
      obtain ⟨K_15, hK_15, h⟩ : ∃ K : Ly → St → Nat → Nat → Int32 → Int32 → Prop, (∀ z1 z2 z3 z4 (t0 : Int32) (t1 : Int32), K z1 z2 z3 z4 t0 t1 → I_15 z1 z2 z3 z4 t0 t1 ∧ μ_15 z1 z2 z3 z4 t0 t1 < μ_15 y_h15 s_h15 d_h15 e_h15 x1h15 x2h15) ∧ wba_Mo_endMethod_15 mc ms Post PX K a0 y_h15 s_h15 d_h15 e_h15 x1h15 x2h15 := ⟨_, fun _ _ _ _ _ _ h => h, hB_15 y_h15 s_h15 d_h15 e_h15 x1h15 x2h15 hJ⟩
      unfold wba_Mo_endMethod_15 at h
      obtain ⟨hd, h⟩ := h
      refine lv_iload_n G.1 G.2.1 d_Mo_endMethod_15 rfl (lv_at hl 2 rfl) ?_
      refine lv_aload_n G.1 G.2.1 d_Mo_endMethod_16 rfl (lv_at hl 0 rfl) ?_
      refine ugf (v := .int (sV s_h15 a0 64)) G hP h_a0 iMo rfl 64 (by decide) rfl q3128 rfl rfl d_Mo_endMethod_17 ?_
      refine lv_icmp_ge (tgt := 102) G.1 G.2.1 d_Mo_endMethod_20 (by decide) (fun c20 => ?_) (fun c20 => ?_)
      · skip
        have h := h.1 c20
        refine lv_bipush (v := 8) G.1 G.2.1 d_Mo_endMethod_102 (by decide) ?_
        refine lv_aload_n G.1 G.2.1 d_Mo_endMethod_104 rfl (lv_at hl 0 rfl) ?_
        refine ugf (v := .int (sV s_h15 a0 54)) G hP h_a0 iMo rfl 54 (by decide) rfl q3118 rfl rfl d_Mo_endMethod_105 ?_
        refine lv_imul G.1 G.2.1 d_Mo_endMethod_108 ?_
        refine lv_istore_n (lv' := [(2, .int (8 * (sV s_h15 a0 54))), (0, .ref (ad a0)), (1, .int x1h15)]) G.1 G.2.1 d_Mo_endMethod_109 rfl hl (by decide) rfl (fun ls hl => ?_)
        refine lv_iconst (v := 0) G.1 G.2.1 d_Mo_endMethod_110 (by decide) ?_
        refine lv_istore_n (lv' := [(3, .int 0), (2, .int (8 * (sV s_h15 a0 54))), (0, .ref (ad a0)), (1, .int x1h15)]) G.1 G.2.1 d_Mo_endMethod_111 rfl hl (by decide) rfl (fun ls hl => ?_)
        unfold wla_Mo_endMethod_112 at h
        obtain ⟨I_112, μ_112, hI_112, hB_112⟩ := h
        have L_112 : ∀ (n_112 : Nat) (y_h112 : Ly) (s_h112 : St) (d_h112 e_h112 : Nat) (x1h112 : Int32) (x2h112 : Int32) (x3h112 : Int32), μ_112 y_h112 s_h112 d_h112 e_h112 x1h112 x2h112 x3h112 < n_112 → I_112 y_h112 s_h112 d_h112 e_h112 x1h112 x2h112 x3h112 → ∀ (H : Heap) (locs : List Loc), va_P D CL (ws g ad y_h112 s_h112) H → va_D A (ws g ad y_h112 s_h112) → va_S A s.heap H locs → ∀ ls, lv_has ls 6 [(0, .ref (ad a0)), (1, .int x1h112), (2, .int x2h112), (3, .int x3h112)] → W p l e (ra_Mo_endMethod mc ms) s m args below meth c H locs d_h112 e_h112 Q (F0 m 112 ls []) := by
          intro n_112
          induction n_112 with
          | zero => intro y_h112 s_h112 d_h112 e_h112 x1h112 x2h112 x3h112 hμ; exact absurd hμ (Nat.not_lt_zero _)
          | succ n_112 ih_112 =>
            intro y_h112 s_h112 d_h112 e_h112 x1h112 x2h112 x3h112 hμ_112 hJ H locs hP hD hS ls hl
            obtain ⟨K_112, hK_112, h⟩ : ∃ K : Ly → St → Nat → Nat → Int32 → Int32 → Int32 → Prop, (∀ z1 z2 z3 z4 (t0 : Int32) (t1 : Int32) (t2 : Int32), K z1 z2 z3 z4 t0 t1 t2 → I_112 z1 z2 z3 z4 t0 t1 t2 ∧ μ_112 z1 z2 z3 z4 t0 t1 t2 < μ_112 y_h112 s_h112 d_h112 e_h112 x1h112 x2h112 x3h112) ∧ wba_Mo_endMethod_112 mc ms Post PX K a0 y_h112 s_h112 d_h112 e_h112 x1h112 x2h112 x3h112 := ⟨_, fun _ _ _ _ _ _ _ h => h, hB_112 y_h112 s_h112 d_h112 e_h112 x1h112 x2h112 x3h112 hJ⟩
            unfold wba_Mo_endMethod_112 at h
            obtain ⟨hd, h⟩ := h
            refine lv_iload_n G.1 G.2.1 d_Mo_endMethod_112 rfl (lv_at hl 3 rfl) ?_
            refine lv_aload_n G.1 G.2.1 d_Mo_endMethod_113 rfl (lv_at hl 0 rfl) ?_
            obtain ⟨b_5, e_6, c_7, h⟩ := h
            refine ugf (v := .ref (ad b_5)) G hP h_a0 iMo rfl 45 (by decide) rfl q3109 rfl (by show va_rf ((sO s_h112 a0 45).map ad) = _; rw [e_6]; rfl) d_Mo_endMethod_114 ?_
            refine ugfN (v := .ref (yP y_h112 b_5 25)) G hP c_7 iMw rfl 25 (by decide) rfl q2754 rfl rfl d_Mo_endMethod_117 ?_
            refine lv_aload_n G.1 G.2.1 d_Mo_endMethod_120 rfl (lv_at hl 0 rfl) ?_
            refine ugf (v := .int (sV s_h112 a0 54)) G hP h_a0 iMo rfl 54 (by decide) rfl q3118 rfl rfl d_Mo_endMethod_121 ?_
            refine uiald G hP (kdp c_7 rfl) (typ c_7 rfl) h d_Mo_endMethod_124 (fun x_8 h => ?_)
            refine lv_icmp_ge (tgt := 249) G.1 G.2.1 d_Mo_endMethod_125 (by decide) (fun c125 => ?_) (fun c125 => ?_)
            · skip
              have h := h.1 c125
              refine lv_iload_n G.1 G.2.1 d_Mo_endMethod_249 rfl (lv_at hl 1 rfl) ?_
              have J_265 : ∀ (y_j265 : Ly) (s_j265 : St) (d_j265 e_j265 : Nat) (H : Heap) (locs : List Loc), wja_Mo_endMethod_265 mc ms Post PX a0 y_j265 s_j265 d_j265 e_j265 → va_P D CL (ws g ad y_j265 s_j265) H → va_D A (ws g ad y_j265 s_j265) → va_S A s.heap H locs → ∀ ls, lv_has ls 6 [(0, .ref (ad a0))] → W p l e (ra_Mo_endMethod mc ms) s m args below meth c H locs d_j265 e_j265 Q (F0 m 265 ls []) := by
                intro y_j265 s_j265 d_j265 e_j265 H locs h hP hD hS ls hl
                unfold wja_Mo_endMethod_265 at h
                obtain ⟨hd, h⟩ := h
                refine lv_aload_n G.1 G.2.1 d_Mo_endMethod_265 rfl (lv_at hl 0 rfl) ?_
                obtain ⟨b_9, e_10, c_11, h⟩ := h
                refine ugf (v := .ref (ad b_9)) G hP h_a0 iMo rfl 45 (by decide) rfl q3109 rfl (by show va_rf ((sO s_j265 a0 45).map ad) = _; rw [e_10]; rfl) d_Mo_endMethod_266 ?_
                refine ugfN (v := .ref (yP y_j265 b_9 23)) G hP c_11 iMw rfl 23 (by decide) rfl q2750 rfl rfl d_Mo_endMethod_269 ?_
                refine lv_aload_n G.1 G.2.1 d_Mo_endMethod_272 rfl (lv_at hl 0 rfl) ?_
                refine ugf (v := .int (sV s_j265 a0 54)) G hP h_a0 iMo rfl 54 (by decide) rfl q3118 rfl rfl d_Mo_endMethod_273 ?_
                refine uiald G hP (kdp c_11 rfl) (typ c_11 rfl) h d_Mo_endMethod_276 (fun x_12 h => ?_)
                refine lv_istore_n (lv' := [(3, .int x_12), (0, .ref (ad a0))]) G.1 G.2.1 d_Mo_endMethod_277 rfl hl (by decide) rfl (fun ls hl => ?_)
                unfold wla_Mo_endMethod_278 at h
                obtain ⟨I_278, μ_278, hI_278, hB_278⟩ := h
                have L_278 : ∀ (n_278 : Nat) (y_h278 : Ly) (s_h278 : St) (d_h278 e_h278 : Nat) (x3h278 : Int32), μ_278 y_h278 s_h278 d_h278 e_h278 x3h278 < n_278 → I_278 y_h278 s_h278 d_h278 e_h278 x3h278 → ∀ (H : Heap) (locs : List Loc), va_P D CL (ws g ad y_h278 s_h278) H → va_D A (ws g ad y_h278 s_h278) → va_S A s.heap H locs → ∀ ls, lv_has ls 6 [(0, .ref (ad a0)), (3, .int x3h278)] → W p l e (ra_Mo_endMethod mc ms) s m args below meth c H locs d_h278 e_h278 Q (F0 m 278 ls []) := by
                  intro n_278
                  induction n_278 with
                  | zero => intro y_h278 s_h278 d_h278 e_h278 x3h278 hμ; exact absurd hμ (Nat.not_lt_zero _)
                  | succ n_278 ih_278 =>
                    intro y_h278 s_h278 d_h278 e_h278 x3h278 hμ_278 hJ H locs hP hD hS ls hl
                    obtain ⟨K_278, hK_278, h⟩ : ∃ K : Ly → St → Nat → Nat → Int32 → Prop, (∀ z1 z2 z3 z4 (t0 : Int32), K z1 z2 z3 z4 t0 → I_278 z1 z2 z3 z4 t0 ∧ μ_278 z1 z2 z3 z4 t0 < μ_278 y_h278 s_h278 d_h278 e_h278 x3h278) ∧ wba_Mo_endMethod_278 mc ms Post PX K a0 y_h278 s_h278 d_h278 e_h278 x3h278 := ⟨_, fun _ _ _ _ _ h => h, hB_278 y_h278 s_h278 d_h278 e_h278 x3h278 hJ⟩
                    unfold wba_Mo_endMethod_278 at h
                    obtain ⟨hd, h⟩ := h
                    refine lv_iload_n G.1 G.2.1 d_Mo_endMethod_278 rfl (lv_at hl 1 rfl) ?_
                    refine lv_aload_n G.1 G.2.1 d_Mo_endMethod_279 rfl (lv_at hl 0 rfl) ?_
                    obtain ⟨b_13, e_14, c_15, h⟩ := h
                    refine ugf (v := .ref (ad b_13)) G hP h_a0 iMo rfl 45 (by decide) rfl q3109 rfl (by show va_rf ((sO s_h278 a0 45).map ad) = _; rw [e_14]; rfl) d_Mo_endMethod_280 ?_
                    refine ugfN (v := .int (sV s_h278 b_13 35)) G hP c_15 iMw rfl 35 (by decide) rfl q2773 rfl rfl d_Mo_endMethod_283 ?_
                    refine lv_icmp_ge (tgt := 417) G.1 G.2.1 d_Mo_endMethod_286 (by decide) (fun c286 => ?_) (fun c286 => ?_)
                    · skip
                      have h := h.1 c286
                      exact hret (y_h278, s_h278, d_h278, e_h278) _ _ _ _ _ ls h hP hD hS (Nat.le_refl _) (Nat.le_refl _) hd.1 hd.2 d_Mo_endMethod_417
                    · skip
                      have h := h.2 c286
                      refine lv_aload_n G.1 G.2.1 d_Mo_endMethod_289 rfl (lv_at hl 0 rfl) ?_
                      refine ugf (v := .ref (ad b_13)) G hP h_a0 iMo rfl 45 (by decide) rfl q3109 rfl (by show va_rf ((sO s_h278 a0 45).map ad) = _; rw [e_14]; rfl) d_Mo_endMethod_290 ?_
                      refine ugfN (v := .ref (yP y_h278 b_13 30)) G hP c_15 iMw rfl 30 (by decide) rfl q2764 rfl rfl d_Mo_endMethod_293 ?_
                      refine lv_iload_n G.1 G.2.1 d_Mo_endMethod_296 rfl (lv_at hl 1 rfl) ?_
                      refine ubald G hP (kdp c_15 rfl) (typ c_15 rfl) h d_Mo_endMethod_297 (fun x_16 h => ?_)
                      refine lv_istore (lv' := [(4, .int x_16), (0, .ref (ad a0)), (3, .int x3h278)]) G.1 G.2.1 d_Mo_endMethod_298 hl (by decide) rfl (fun ls hl => ?_)
                      refine W.eq (g2 := F0 m 300 ls []) rfl ?_
                      refine lv_iload G.1 G.2.1 d_Mo_endMethod_300 (lv_at hl 0 rfl) ?_
                      refine lv_bipush (v := 23) G.1 G.2.1 d_Mo_endMethod_302 (by decide) ?_
                      have J_411 : ∀ (y_j411 : Ly) (s_j411 : St) (d_j411 e_j411 : Nat) (x3j411 : Int32) (H : Heap) (locs : List Loc), wja_Mo_endMethod_411 mc ms Post PX K_278 a0 y_j411 s_j411 d_j411 e_j411 x3j411 → va_P D CL (ws g ad y_j411 s_j411) H → va_D A (ws g ad y_j411 s_j411) → va_S A s.heap H locs → ∀ ls, lv_has ls 6 [(0, .ref (ad a0)), (3, .int x3j411)] → W p l e (ra_Mo_endMethod mc ms) s m args below meth c H locs d_j411 e_j411 Q (F0 m 411 ls []) := by
                        intro y_j411 s_j411 d_j411 e_j411 x3j411 H locs h hP hD hS ls hl
                        unfold wja_Mo_endMethod_411 at h
                        obtain ⟨hd, h⟩ := h
                        refine lv_iinc (v := x3j411 + 1) (lv' := [(3, .int (x3j411 + 1)), (0, .ref (ad a0))]) G.1 G.2.1 d_Mo_endMethod_411 hl (k := 1) rfl rfl (by decide) rfl (fun ls hl => ?_)
                        refine lv_goto (tgt := 278) G.1 G.2.1 d_Mo_endMethod_414 (by decide) ?_
                        have h := hK_278 y_j411 s_j411 d_j411 e_j411 (x3j411 + 1) h
                        exact ih_278 y_j411 s_j411 d_j411 e_j411 (x3j411 + 1) (Nat.lt_of_lt_of_le h.2 (Nat.le_of_lt_succ hμ_278)) h.1 H locs hP hD hS ls (lv_sub hl [1, 0] rfl)
                      have J_339 : ∀ (y_j339 : Ly) (s_j339 : St) (d_j339 e_j339 : Nat) (x3j339 : Int32) (x4j339 : Int32) (H : Heap) (locs : List Loc), wja_Mo_endMethod_339 mc ms Post PX K_278 a0 y_j339 s_j339 d_j339 e_j339 x3j339 x4j339 → va_P D CL (ws g ad y_j339 s_j339) H → va_D A (ws g ad y_j339 s_j339) → va_S A s.heap H locs → ∀ ls, lv_has ls 6 [(0, .ref (ad a0)), (3, .int x3j339), (4, .int x4j339)] → W p l e (ra_Mo_endMethod mc ms) s m args below meth c H locs d_j339 e_j339 Q (F0 m 339 ls []) := by
                        intro y_j339 s_j339 d_j339 e_j339 x3j339 x4j339 H locs h hP hD hS ls hl
                        unfold wja_Mo_endMethod_339 at h
                        obtain ⟨hd, h⟩ := h
                        refine lv_iload G.1 G.2.1 d_Mo_endMethod_339 (lv_at hl 2 rfl) ?_
                        refine lv_bipush (v := 40) G.1 G.2.1 d_Mo_endMethod_341 (by decide) ?_
                        refine lv_icmp_ne (tgt := 411) G.1 G.2.1 d_Mo_endMethod_343 (by decide) (fun c343 => ?_) (fun c343 => ?_)
                        · skip
                          have h := h.1 c343
                          exact J_411 y_j339 s_j339 d_j339 e_j339 x3j339 H locs h hP hD hS ls (lv_sub hl [0, 1] rfl)
                        · skip
                          have h := h.2 c343
                          refine lv_aload_n G.1 G.2.1 d_Mo_endMethod_346 rfl (lv_at hl 0 rfl) ?_
                          obtain ⟨b_17, e_18, c_19, h⟩ := h
                          refine ugf (v := .ref (ad b_17)) G hP h_a0 iMo rfl 45 (by decide) rfl q3109 rfl (by show va_rf ((sO s_j339 a0 45).map ad) = _; rw [e_18]; rfl) d_Mo_endMethod_347 ?_
                          refine ugfN (v := .ref (yP y_j339 b_17 32)) G hP c_19 iMw rfl 32 (by decide) rfl q2768 rfl rfl d_Mo_endMethod_350 ?_
                          refine lv_iload_n G.1 G.2.1 d_Mo_endMethod_353 rfl (lv_at hl 1 rfl) ?_
                          refine uiald G hP (kdp c_19 rfl) (typ c_19 rfl) h d_Mo_endMethod_354 (fun x_20 h => ?_)
                          refine lv_istore (lv' := [(5, .int x_20), (0, .ref (ad a0)), (3, .int x3j339), (4, .int x4j339)]) G.1 G.2.1 d_Mo_endMethod_355 hl (by decide) rfl (fun ls hl => ?_)
                          unfold wla_Mo_endMethod_357 at h
                          obtain ⟨I_357, μ_357, hI_357, hB_357⟩ := h
                          have L_357 : ∀ (n_357 : Nat) (y_h357 : Ly) (s_h357 : St) (d_h357 e_h357 : Nat) (x3h357 : Int32) (x5h357 : Int32), μ_357 y_h357 s_h357 d_h357 e_h357 x3h357 x5h357 < n_357 → I_357 y_h357 s_h357 d_h357 e_h357 x3h357 x5h357 → ∀ (H : Heap) (locs : List Loc), va_P D CL (ws g ad y_h357 s_h357) H → va_D A (ws g ad y_h357 s_h357) → va_S A s.heap H locs → ∀ ls, lv_has ls 6 [(0, .ref (ad a0)), (3, .int x3h357), (5, .int x5h357)] → W p l e (ra_Mo_endMethod mc ms) s m args below meth c H locs d_h357 e_h357 Q (F0 m 357 ls []) := by
                            intro n_357
                            induction n_357 with
                            | zero => intro y_h357 s_h357 d_h357 e_h357 x3h357 x5h357 hμ; exact absurd hμ (Nat.not_lt_zero _)
                            | succ n_357 ih_357 =>
                              intro y_h357 s_h357 d_h357 e_h357 x3h357 x5h357 hμ_357 hJ H locs hP hD hS ls hl
                              obtain ⟨K_357, hK_357, h⟩ : ∃ K : Ly → St → Nat → Nat → Int32 → Int32 → Prop, (∀ z1 z2 z3 z4 (t0 : Int32) (t1 : Int32), K z1 z2 z3 z4 t0 t1 → I_357 z1 z2 z3 z4 t0 t1 ∧ μ_357 z1 z2 z3 z4 t0 t1 < μ_357 y_h357 s_h357 d_h357 e_h357 x3h357 x5h357) ∧ wba_Mo_endMethod_357 mc ms Post PX K_278 K a0 y_h357 s_h357 d_h357 e_h357 x3h357 x5h357 := ⟨_, fun _ _ _ _ _ _ h => h, hB_357 y_h357 s_h357 d_h357 e_h357 x3h357 x5h357 hJ⟩
                              unfold wba_Mo_endMethod_357 at h
                              obtain ⟨hd, h⟩ := h
                              refine lv_iload G.1 G.2.1 d_Mo_endMethod_357 (lv_at hl 2 rfl) ?_
                              refine lv_aload_n G.1 G.2.1 d_Mo_endMethod_359 rfl (lv_at hl 0 rfl) ?_
                              obtain ⟨b_21, e_22, c_23, h⟩ := h
                              refine ugf (v := .ref (ad b_21)) G hP h_a0 iMo rfl 45 (by decide) rfl q3109 rfl (by show va_rf ((sO s_h357 a0 45).map ad) = _; rw [e_22]; rfl) d_Mo_endMethod_360 ?_
                              refine ugfN (v := .ref (yP y_h357 b_21 32)) G hP c_23 iMw rfl 32 (by decide) rfl q2768 rfl rfl d_Mo_endMethod_363 ?_
                              refine lv_iload_n G.1 G.2.1 d_Mo_endMethod_366 rfl (lv_at hl 1 rfl) ?_
                              refine uiald G hP (kdp c_23 rfl) (typ c_23 rfl) h d_Mo_endMethod_367 (fun x_24 h => ?_)
                              refine lv_aload_n G.1 G.2.1 d_Mo_endMethod_368 rfl (lv_at hl 0 rfl) ?_
                              refine ugf (v := .ref (ad b_21)) G hP h_a0 iMo rfl 45 (by decide) rfl q3109 rfl (by show va_rf ((sO s_h357 a0 45).map ad) = _; rw [e_22]; rfl) d_Mo_endMethod_369 ?_
                              refine ugfN (v := .ref (yP y_h357 b_21 33)) G hP c_23 iMw rfl 33 (by decide) rfl q2770 rfl rfl d_Mo_endMethod_372 ?_
                              refine lv_iload_n G.1 G.2.1 d_Mo_endMethod_375 rfl (lv_at hl 1 rfl) ?_
                              refine uiald G hP (kdp c_23 rfl) (typ c_23 rfl) h d_Mo_endMethod_376 (fun x_25 h => ?_)
                              refine W.eq (g2 := F0 m 377 ls [.int x_25, .int x_24, .int x5h357]) rfl ?_
                              refine lv_iadd G.1 G.2.1 d_Mo_endMethod_377 ?_
                              refine lv_icmp_ge (tgt := 411) G.1 G.2.1 d_Mo_endMethod_378 (by decide) (fun c378 => ?_) (fun c378 => ?_)
                              · skip
                                have h := h.1 c378
                                exact J_411 y_h357 s_h357 d_h357 e_h357 x3h357 H locs h hP hD hS ls (lv_sub hl [0, 1] rfl)
                              · skip
                                have h := h.2 c378
                                refine lv_aload_n G.1 G.2.1 d_Mo_endMethod_381 rfl (lv_at hl 0 rfl) ?_
                                refine ugf (v := .ref (ad b_21)) G hP h_a0 iMo rfl 45 (by decide) rfl q3109 rfl (by show va_rf ((sO s_h357 a0 45).map ad) = _; rw [e_22]; rfl) d_Mo_endMethod_382 ?_
                                refine ugfN (v := .ref (yP y_h357 b_21 36)) G hP c_23 iMw rfl 36 (by decide) rfl q2775 rfl rfl d_Mo_endMethod_385 ?_
                                refine lv_iload G.1 G.2.1 d_Mo_endMethod_388 (lv_at hl 2 rfl) ?_
                                refine lv_aload_n G.1 G.2.1 d_Mo_endMethod_390 rfl (lv_at hl 0 rfl) ?_
                                refine lv_aload_n G.1 G.2.1 d_Mo_endMethod_391 rfl (lv_at hl 0 rfl) ?_
                                refine ugf (v := .ref (ad b_21)) G hP h_a0 iMo rfl 45 (by decide) rfl q3109 rfl (by show va_rf ((sO s_h357 a0 45).map ad) = _; rw [e_22]; rfl) d_Mo_endMethod_392 ?_
                                refine ugfN (v := .ref (yP y_h357 b_21 36)) G hP c_23 iMw rfl 36 (by decide) rfl q2775 rfl rfl d_Mo_endMethod_395 ?_
                                refine lv_iload G.1 G.2.1 d_Mo_endMethod_398 (lv_at hl 2 rfl) ?_
                                refine uiald G hP (kdp c_23 rfl) (typ c_23 rfl) h d_Mo_endMethod_400 (fun x_26 h => ?_)
                                refine W.eq (g2 := F0 m 401 ls [.int x_26, .ref (ad a0), .int x5h357, .ref (yP y_h357 b_21 36)]) rfl ?_
                                refine ucVi (As := [.int x_26]) (rest := [.int x5h357, .ref (yP y_h357 b_21 36)]) G hP hD hS (cu_Mo_labelOf l D g ad y_h357 _ s_h357 a0 x_26 H.size h_a0 h) w9_Mo_labelOf q3530 ⟨Nat.le_of_ble_eq_true rfl, Nat.le_of_ble_eq_true rfl⟩ rfl rfl h_a0 (q := (RMo, TMo, 131)) rfl rfl hl.1 rfl (Nat.le_of_ble_eq_true rfl) rfl hd d_Mo_endMethod_401 (fun r_27 s_28 H locs h hP hD hS => ?_)
                                refine uiast G hP hD hS (kdp c_23 rfl) (typ c_23 rfl) h d_Mo_endMethod_404 (fun s_29 H locs h hP hD hS => ?_)
                                refine lv_iinc (v := x5h357 + 1) (lv' := [(5, .int (x5h357 + 1)), (0, .ref (ad a0)), (3, .int x3h357)]) G.1 G.2.1 d_Mo_endMethod_405 hl (k := 2) rfl rfl (by decide) rfl (fun ls hl => ?_)
                                refine lv_goto (tgt := 357) G.1 G.2.1 d_Mo_endMethod_408 (by decide) ?_
                                have h := hK_357 y_h357 s_29 d_h357 e_h357 x3h357 (x5h357 + 1) h
                                exact ih_357 y_h357 s_29 d_h357 e_h357 x3h357 (x5h357 + 1) (Nat.lt_of_lt_of_le h.2 (Nat.le_of_lt_succ hμ_357)) h.1 H locs hP hD hS ls (lv_sub hl [1, 2, 0] rfl)
                          exact L_357 _ y_j339 s_j339 d_j339 e_j339 x3j339 x_20 (Nat.lt_succ_self _) hI_357 H locs hP hD hS ls (lv_sub hl [1, 2, 0] rfl)
                      refine lv_icmp_lt (tgt := 339) G.1 G.2.1 d_Mo_endMethod_304 (by decide) (fun c304 => ?_) (fun c304 => ?_)
                      · skip
                        have h := h.1 c304
                        exact J_339 y_h278 s_h278 d_h278 e_h278 x3h278 x_16 H locs h hP hD hS ls (lv_sub hl [1, 2, 0] rfl)
                      · skip
                        have h := h.2 c304
                        refine lv_iload G.1 G.2.1 d_Mo_endMethod_307 (lv_at hl 0 rfl) ?_
                        refine lv_bipush (v := 39) G.1 G.2.1 d_Mo_endMethod_309 (by decide) ?_
                        refine lv_icmp_gt (tgt := 339) G.1 G.2.1 d_Mo_endMethod_311 (by decide) (fun c311 => ?_) (fun c311 => ?_)
                        · skip
                          have h := h.1 c311
                          exact J_339 y_h278 s_h278 d_h278 e_h278 x3h278 x_16 H locs h hP hD hS ls (lv_sub hl [1, 2, 0] rfl)
                        · skip
                          have h := h.2 c311
                          refine lv_aload_n G.1 G.2.1 d_Mo_endMethod_314 rfl (lv_at hl 1 rfl) ?_
                          refine ugf (v := .ref (ad b_13)) G hP h_a0 iMo rfl 45 (by decide) rfl q3109 rfl (by show va_rf ((sO s_h278 a0 45).map ad) = _; rw [e_14]; rfl) d_Mo_endMethod_315 ?_
                          refine ugfN (v := .ref (yP y_h278 b_13 31)) G hP c_15 iMw rfl 31 (by decide) rfl q2766 rfl rfl d_Mo_endMethod_318 ?_
                          refine lv_iload_n G.1 G.2.1 d_Mo_endMethod_321 rfl (lv_at hl 2 rfl) ?_
                          refine lv_aload_n G.1 G.2.1 d_Mo_endMethod_322 rfl (lv_at hl 1 rfl) ?_
                          refine lv_aload_n G.1 G.2.1 d_Mo_endMethod_323 rfl (lv_at hl 1 rfl) ?_
                          refine W.eq (g2 := F0 m 324 ls [.ref (ad a0), .ref (ad a0), .int x3h278, .ref (yP y_h278 b_13 31)]) rfl ?_
                          refine ugf (v := .ref (ad b_13)) G hP h_a0 iMo rfl 45 (by decide) rfl q3109 rfl (by show va_rf ((sO s_h278 a0 45).map ad) = _; rw [e_14]; rfl) d_Mo_endMethod_324 ?_
                          refine ugfN (v := .ref (yP y_h278 b_13 31)) G hP c_15 iMw rfl 31 (by decide) rfl q2766 rfl rfl d_Mo_endMethod_327 ?_
                          refine lv_iload_n G.1 G.2.1 d_Mo_endMethod_330 rfl (lv_at hl 2 rfl) ?_
                          refine uiald G hP (kdp c_15 rfl) (typ c_15 rfl) h d_Mo_endMethod_331 (fun x_30 h => ?_)
                          refine ucVi (As := [.int x_30]) (rest := [.int x3h278, .ref (yP y_h278 b_13 31)]) G hP hD hS (cu_Mo_labelOf l D g ad y_h278 _ s_h278 a0 x_30 H.size h_a0 h) w9_Mo_labelOf q3530 ⟨Nat.le_of_ble_eq_true rfl, Nat.le_of_ble_eq_true rfl⟩ rfl rfl h_a0 (q := (RMo, TMo, 131)) rfl rfl hl.1 rfl (Nat.le_of_ble_eq_true rfl) rfl hd d_Mo_endMethod_332 (fun r_31 s_32 H locs h hP hD hS => ?_)
                          refine uiast G hP hD hS (kdp c_15 rfl) (typ c_15 rfl) h d_Mo_endMethod_335 (fun s_33 H locs h hP hD hS => ?_)
                          refine lv_goto (tgt := 411) G.1 G.2.1 d_Mo_endMethod_336 (by decide) ?_
                          exact J_411 y_h278 s_33 d_h278 e_h278 x3h278 H locs h hP hD hS ls (lv_sub hl [1, 2] rfl)
                exact L_278 _ y_j265 s_j265 d_j265 e_j265 x_12 (Nat.lt_succ_self _) hI_278 H locs hP hD hS ls (lv_sub hl [1, 0] rfl)
              refine lv_if_ne (tgt := 265) G.1 G.2.1 d_Mo_endMethod_250 (by decide) (fun c250 => ?_) (fun c250 => ?_)
              · skip
                have h := h.1 c250
                exact J_265 y_h112 s_h112 d_h112 e_h112 H locs h hP hD hS ls (lv_sub hl [0] rfl)
              · skip
                have h := h.2 c250
                refine lv_aload_n G.1 G.2.1 d_Mo_endMethod_253 rfl (lv_at hl 0 rfl) ?_
                refine W.eq (g2 := F0 m 254 ls [.ref (ad a0)]) rfl ?_
                refine lv_bipush (v := 8) G.1 G.2.1 d_Mo_endMethod_254 (by decide) ?_
                refine lv_aload_n G.1 G.2.1 d_Mo_endMethod_256 rfl (lv_at hl 0 rfl) ?_
                refine ugf (v := .ref (yP y_h112 a0 41)) G hP h_a0 iMo rfl 41 (by decide) rfl q3105 rfl rfl d_Mo_endMethod_257 ?_
                refine lv_iconst (v := 0) G.1 G.2.1 d_Mo_endMethod_260 (by decide) ?_
                refine uiald G hP (kdp h_a0 rfl) (typ h_a0 rfl) h d_Mo_endMethod_261 (fun x_34 h => ?_)
                obtain ⟨mc_40, ms_41, hr_42, h⟩ := h
                refine uxVv (As := [.int 8, .int x_34]) (rest := []) G hP hD hS (cx_Mo_refuse l D g ad mc_40 ms_41 y_h112 _ _ s_h112 a0 8 x_34 H.size (us H) h_a0 h) (fun _ h => absurd h List.not_mem_nil) w9_Mo_refuse q3535 ⟨Nat.le_of_ble_eq_true rfl, Nat.le_of_ble_eq_true rfl⟩ rfl rfl h_a0 (q := (RMo, TMo, 131)) rfl rfl hl.1 rfl (Nat.le_of_ble_eq_true rfl) rfl hr_42 d_Mo_endMethod_262 (fun y_37 s_36 d_38 e_39 H locs q9 ce h hP hD hS hce hcv hcl => ?_) (fun y_37 s_36 d_38 e_39 H locs h hP hD hS => ?_)
                · skip
                  obtain ⟨hd, h⟩ := h
                  exact hretX h hP hD hS hd.1 hd.2 hce hcv hcl
                have hl := lv_sub (l' := [(0, .ref (ad a0))]) hl [0] rfl
                obtain ⟨hd, h⟩ := h
                exact J_265 y_37 s_36 (d_h112 + d_38) (e_h112 + e_39) H locs h hP hD hS ls (lv_sub hl [0] rfl)
            · skip
              have h := h.2 c125
              refine lv_aload_n G.1 G.2.1 d_Mo_endMethod_128 rfl (lv_at hl 0 rfl) ?_
              refine ugf (v := .ref (ad b_5)) G hP h_a0 iMo rfl 45 (by decide) rfl q3109 rfl (by show va_rf ((sO s_h112 a0 45).map ad) = _; rw [e_6]; rfl) d_Mo_endMethod_129 ?_
              refine ugfN (v := .ref (yP y_h112 b_5 26)) G hP c_7 iMw rfl 26 (by decide) rfl q2756 rfl rfl d_Mo_endMethod_132 ?_
              refine W.eq (g2 := F0 m 135 ls [.ref (yP y_h112 b_5 26)]) rfl ?_
              refine lv_iload_n G.1 G.2.1 d_Mo_endMethod_135 rfl (lv_at hl 2 rfl) ?_
              refine lv_iload_n G.1 G.2.1 d_Mo_endMethod_136 rfl (lv_at hl 3 rfl) ?_
              refine lv_iadd G.1 G.2.1 d_Mo_endMethod_137 ?_
              refine lv_aload_n G.1 G.2.1 d_Mo_endMethod_138 rfl (lv_at hl 0 rfl) ?_
              refine lv_aload_n G.1 G.2.1 d_Mo_endMethod_139 rfl (lv_at hl 0 rfl) ?_
              refine ugf (v := .ref (ad b_5)) G hP h_a0 iMo rfl 45 (by decide) rfl q3109 rfl (by show va_rf ((sO s_h112 a0 45).map ad) = _; rw [e_6]; rfl) d_Mo_endMethod_140 ?_
              refine ugfN (v := .ref (yP y_h112 b_5 26)) G hP c_7 iMw rfl 26 (by decide) rfl q2756 rfl rfl d_Mo_endMethod_143 ?_
              refine lv_iload_n G.1 G.2.1 d_Mo_endMethod_146 rfl (lv_at hl 2 rfl) ?_
              refine lv_iload_n G.1 G.2.1 d_Mo_endMethod_147 rfl (lv_at hl 3 rfl) ?_
              refine lv_iadd G.1 G.2.1 d_Mo_endMethod_148 ?_
              refine uiald G hP (kdp c_7 rfl) (typ c_7 rfl) h d_Mo_endMethod_149 (fun x_43 h => ?_)
              refine ucVi (As := [.int x_43]) (rest := [.int (x2h112 + x3h112), .ref (yP y_h112 b_5 26)]) G hP hD hS (cu_Mo_labelOf l D g ad y_h112 _ s_h112 a0 x_43 H.size h_a0 h) w9_Mo_labelOf q3530 ⟨Nat.le_of_ble_eq_true rfl, Nat.le_of_ble_eq_true rfl⟩ rfl rfl h_a0 (q := (RMo, TMo, 131)) rfl rfl hl.1 rfl (Nat.le_of_ble_eq_true rfl) rfl hd d_Mo_endMethod_150 (fun r_44 s_45 H locs h hP hD hS => ?_)
              refine W.eq (g2 := F0 m 153 ls [.int r_44, .int (x2h112 + x3h112), .ref (yP y_h112 b_5 26)]) rfl ?_
              refine uiast G hP hD hS (kdp c_7 rfl) (typ c_7 rfl) h d_Mo_endMethod_153 (fun s_46 H locs h hP hD hS => ?_)
              refine lv_aload_n G.1 G.2.1 d_Mo_endMethod_154 rfl (lv_at hl 0 rfl) ?_
              obtain ⟨b_47, e_48, c_49, h⟩ := h
              refine ugf (v := .ref (ad b_47)) G hP h_a0 iMo rfl 45 (by decide) rfl q3109 rfl (by show va_rf ((sO s_46 a0 45).map ad) = _; rw [e_48]; rfl) d_Mo_endMethod_155 ?_
              refine ugfN (v := .ref (yP y_h112 b_47 27)) G hP c_49 iMw rfl 27 (by decide) rfl q2758 rfl rfl d_Mo_endMethod_158 ?_
              refine lv_iload_n G.1 G.2.1 d_Mo_endMethod_161 rfl (lv_at hl 2 rfl) ?_
              refine lv_iload_n G.1 G.2.1 d_Mo_endMethod_162 rfl (lv_at hl 3 rfl) ?_
              refine lv_iadd G.1 G.2.1 d_Mo_endMethod_163 ?_
              refine lv_aload_n G.1 G.2.1 d_Mo_endMethod_164 rfl (lv_at hl 0 rfl) ?_
              refine lv_aload_n G.1 G.2.1 d_Mo_endMethod_165 rfl (lv_at hl 0 rfl) ?_
              refine ugf (v := .ref (ad b_47)) G hP h_a0 iMo rfl 45 (by decide) rfl q3109 rfl (by show va_rf ((sO s_46 a0 45).map ad) = _; rw [e_48]; rfl) d_Mo_endMethod_166 ?_
              refine ugfN (v := .ref (yP y_h112 b_47 27)) G hP c_49 iMw rfl 27 (by decide) rfl q2758 rfl rfl d_Mo_endMethod_169 ?_
              refine lv_iload_n G.1 G.2.1 d_Mo_endMethod_172 rfl (lv_at hl 2 rfl) ?_
              refine W.eq (g2 := F0 m 173 ls [.int x2h112, .ref (yP y_h112 b_47 27), .ref (ad a0), .int (x2h112 + x3h112), .ref (yP y_h112 b_47 27)]) rfl ?_
              refine lv_iload_n G.1 G.2.1 d_Mo_endMethod_173 rfl (lv_at hl 3 rfl) ?_
              refine lv_iadd G.1 G.2.1 d_Mo_endMethod_174 ?_
              refine uiald G hP (kdp c_49 rfl) (typ c_49 rfl) h d_Mo_endMethod_175 (fun x_50 h => ?_)
              refine ucVi (As := [.int x_50]) (rest := [.int (x2h112 + x3h112), .ref (yP y_h112 b_47 27)]) G hP hD hS (cu_Mo_labelOf l D g ad y_h112 _ s_46 a0 x_50 H.size h_a0 h) w9_Mo_labelOf q3530 ⟨Nat.le_of_ble_eq_true rfl, Nat.le_of_ble_eq_true rfl⟩ rfl rfl h_a0 (q := (RMo, TMo, 131)) rfl rfl hl.1 rfl (Nat.le_of_ble_eq_true rfl) rfl hd d_Mo_endMethod_176 (fun r_51 s_52 H locs h hP hD hS => ?_)
              refine uiast G hP hD hS (kdp c_49 rfl) (typ c_49 rfl) h d_Mo_endMethod_179 (fun s_53 H locs h hP hD hS => ?_)
              refine lv_aload_n G.1 G.2.1 d_Mo_endMethod_180 rfl (lv_at hl 0 rfl) ?_
              obtain ⟨b_54, e_55, c_56, h⟩ := h
              refine ugf (v := .ref (ad b_54)) G hP h_a0 iMo rfl 45 (by decide) rfl q3109 rfl (by show va_rf ((sO s_53 a0 45).map ad) = _; rw [e_55]; rfl) d_Mo_endMethod_181 ?_
              refine ugfN (v := .ref (yP y_h112 b_54 28)) G hP c_56 iMw rfl 28 (by decide) rfl q2760 rfl rfl d_Mo_endMethod_184 ?_
              refine lv_iload_n G.1 G.2.1 d_Mo_endMethod_187 rfl (lv_at hl 2 rfl) ?_
              refine lv_iload_n G.1 G.2.1 d_Mo_endMethod_188 rfl (lv_at hl 3 rfl) ?_
              refine lv_iadd G.1 G.2.1 d_Mo_endMethod_189 ?_
              refine lv_aload_n G.1 G.2.1 d_Mo_endMethod_190 rfl (lv_at hl 0 rfl) ?_
              refine W.eq (g2 := F0 m 191 ls [.ref (ad a0), .int (x2h112 + x3h112), .ref (yP y_h112 b_54 28)]) rfl ?_
              refine lv_aload_n G.1 G.2.1 d_Mo_endMethod_191 rfl (lv_at hl 0 rfl) ?_
              refine ugf (v := .ref (ad b_54)) G hP h_a0 iMo rfl 45 (by decide) rfl q3109 rfl (by show va_rf ((sO s_53 a0 45).map ad) = _; rw [e_55]; rfl) d_Mo_endMethod_192 ?_
              refine ugfN (v := .ref (yP y_h112 b_54 28)) G hP c_56 iMw rfl 28 (by decide) rfl q2760 rfl rfl d_Mo_endMethod_195 ?_
              refine lv_iload_n G.1 G.2.1 d_Mo_endMethod_198 rfl (lv_at hl 2 rfl) ?_
              refine lv_iload_n G.1 G.2.1 d_Mo_endMethod_199 rfl (lv_at hl 3 rfl) ?_
              refine lv_iadd G.1 G.2.1 d_Mo_endMethod_200 ?_
              refine uiald G hP (kdp c_56 rfl) (typ c_56 rfl) h d_Mo_endMethod_201 (fun x_57 h => ?_)
              refine ucVi (As := [.int x_57]) (rest := [.int (x2h112 + x3h112), .ref (yP y_h112 b_54 28)]) G hP hD hS (cu_Mo_labelOf l D g ad y_h112 _ s_53 a0 x_57 H.size h_a0 h) w9_Mo_labelOf q3530 ⟨Nat.le_of_ble_eq_true rfl, Nat.le_of_ble_eq_true rfl⟩ rfl rfl h_a0 (q := (RMo, TMo, 131)) rfl rfl hl.1 rfl (Nat.le_of_ble_eq_true rfl) rfl hd d_Mo_endMethod_202 (fun r_58 s_59 H locs h hP hD hS => ?_)
              refine uiast G hP hD hS (kdp c_56 rfl) (typ c_56 rfl) h d_Mo_endMethod_205 (fun s_60 H locs h hP hD hS => ?_)
              refine lv_aload_n G.1 G.2.1 d_Mo_endMethod_206 rfl (lv_at hl 0 rfl) ?_
              obtain ⟨b_61, e_62, c_63, h⟩ := h
              refine ugf (v := .ref (ad b_61)) G hP h_a0 iMo rfl 45 (by decide) rfl q3109 rfl (by show va_rf ((sO s_60 a0 45).map ad) = _; rw [e_62]; rfl) d_Mo_endMethod_207 ?_
              refine ugfN (v := .ref (yP y_h112 b_61 26)) G hP c_63 iMw rfl 26 (by decide) rfl q2756 rfl rfl d_Mo_endMethod_210 ?_
              refine W.eq (g2 := F0 m 213 ls [.ref (yP y_h112 b_61 26)]) rfl ?_
              refine lv_iload_n G.1 G.2.1 d_Mo_endMethod_213 rfl (lv_at hl 2 rfl) ?_
              refine lv_iload_n G.1 G.2.1 d_Mo_endMethod_214 rfl (lv_at hl 3 rfl) ?_
              refine lv_iadd G.1 G.2.1 d_Mo_endMethod_215 ?_
              refine uiald G hP (kdp c_63 rfl) (typ c_63 rfl) h d_Mo_endMethod_216 (fun x_64 h => ?_)
              refine lv_aload_n G.1 G.2.1 d_Mo_endMethod_217 rfl (lv_at hl 0 rfl) ?_
              refine ugf (v := .ref (ad b_61)) G hP h_a0 iMo rfl 45 (by decide) rfl q3109 rfl (by show va_rf ((sO s_60 a0 45).map ad) = _; rw [e_62]; rfl) d_Mo_endMethod_218 ?_
              refine ugfN (v := .ref (yP y_h112 b_61 27)) G hP c_63 iMw rfl 27 (by decide) rfl q2758 rfl rfl d_Mo_endMethod_221 ?_
              refine lv_iload_n G.1 G.2.1 d_Mo_endMethod_224 rfl (lv_at hl 2 rfl) ?_
              refine lv_iload_n G.1 G.2.1 d_Mo_endMethod_225 rfl (lv_at hl 3 rfl) ?_
              refine lv_iadd G.1 G.2.1 d_Mo_endMethod_226 ?_
              refine uiald G hP (kdp c_63 rfl) (typ c_63 rfl) h d_Mo_endMethod_227 (fun x_65 h => ?_)
              have J_243 : ∀ (y_j243 : Ly) (s_j243 : St) (d_j243 e_j243 : Nat) (x1j243 : Int32) (x2j243 : Int32) (x3j243 : Int32) (H : Heap) (locs : List Loc), wja_Mo_endMethod_243 mc ms Post PX K_112 a0 y_j243 s_j243 d_j243 e_j243 x1j243 x2j243 x3j243 → va_P D CL (ws g ad y_j243 s_j243) H → va_D A (ws g ad y_j243 s_j243) → va_S A s.heap H locs → ∀ ls, lv_has ls 6 [(0, .ref (ad a0)), (1, .int x1j243), (2, .int x2j243), (3, .int x3j243)] → W p l e (ra_Mo_endMethod mc ms) s m args below meth c H locs d_j243 e_j243 Q (F0 m 243 ls []) := by
                intro y_j243 s_j243 d_j243 e_j243 x1j243 x2j243 x3j243 H locs h hP hD hS ls hl
                unfold wja_Mo_endMethod_243 at h
                obtain ⟨hd, h⟩ := h
                refine lv_iinc (v := x3j243 + 1) (lv' := [(3, .int (x3j243 + 1)), (0, .ref (ad a0)), (1, .int x1j243), (2, .int x2j243)]) G.1 G.2.1 d_Mo_endMethod_243 hl (k := 3) rfl rfl (by decide) rfl (fun ls hl => ?_)
                refine lv_goto (tgt := 112) G.1 G.2.1 d_Mo_endMethod_246 (by decide) ?_
                have h := hK_112 y_j243 s_j243 d_j243 e_j243 x1j243 x2j243 (x3j243 + 1) h
                exact ih_112 y_j243 s_j243 d_j243 e_j243 x1j243 x2j243 (x3j243 + 1) (Nat.lt_of_lt_of_le h.2 (Nat.le_of_lt_succ hμ_112)) h.1 H locs hP hD hS ls (lv_sub hl [1, 2, 3, 0] rfl)
              refine lv_icmp_lt (tgt := 243) G.1 G.2.1 d_Mo_endMethod_228 (by decide) (fun c228 => ?_) (fun c228 => ?_)
              · skip
                have h := h.1 c228
                exact J_243 y_h112 s_60 d_h112 e_h112 x1h112 x2h112 x3h112 H locs h hP hD hS ls (lv_sub hl [0, 1, 2, 3] rfl)
              · skip
                have h := h.2 c228
                refine W.eq (g2 := F0 m 231 ls []) rfl ?_
                refine lv_aload_n G.1 G.2.1 d_Mo_endMethod_231 rfl (lv_at hl 0 rfl) ?_
                refine lv_bipush (v := 10) G.1 G.2.1 d_Mo_endMethod_232 (by decide) ?_
                refine lv_aload_n G.1 G.2.1 d_Mo_endMethod_234 rfl (lv_at hl 0 rfl) ?_
                refine ugf (v := .ref (yP y_h112 a0 66)) G hP h_a0 iMo rfl 66 (by decide) rfl q3130 rfl rfl d_Mo_endMethod_235 ?_
                refine lv_iload_n G.1 G.2.1 d_Mo_endMethod_238 rfl (lv_at hl 3 rfl) ?_
                refine uiald G hP (kdp h_a0 rfl) (typ h_a0 rfl) h d_Mo_endMethod_239 (fun x_66 h => ?_)
                obtain ⟨mc_72, ms_73, hr_74, h⟩ := h
                refine uxVv (As := [.int 10, .int x_66]) (rest := []) G hP hD hS (cx_Mo_refuse l D g ad mc_72 ms_73 y_h112 _ _ s_60 a0 10 x_66 H.size (us H) h_a0 h) (fun _ h => absurd h List.not_mem_nil) w9_Mo_refuse q3535 ⟨Nat.le_of_ble_eq_true rfl, Nat.le_of_ble_eq_true rfl⟩ rfl rfl h_a0 (q := (RMo, TMo, 131)) rfl rfl hl.1 rfl (Nat.le_of_ble_eq_true rfl) rfl hr_74 d_Mo_endMethod_240 (fun y_69 s_68 d_70 e_71 H locs q9 ce h hP hD hS hce hcv hcl => ?_) (fun y_69 s_68 d_70 e_71 H locs h hP hD hS => ?_)
                · skip
                  obtain ⟨hd, h⟩ := h
                  exact hretX h hP hD hS hd.1 hd.2 hce hcv hcl
                obtain ⟨hd, h⟩ := h
                exact J_243 y_69 s_68 (d_h112 + d_70) (e_h112 + e_71) x1h112 x2h112 x3h112 H locs h hP hD hS ls (lv_sub hl [0, 1, 2, 3] rfl)
        exact L_112 _ y_h15 s_h15 d_h15 e_h15 x1h15 (8 * (sV s_h15 a0 54)) 0 (Nat.lt_succ_self _) hI_112 H locs hP hD hS ls (lv_sub hl [2, 3, 1, 0] rfl)
      · skip
        have h := h.2 c20
        refine lv_aload_n G.1 G.2.1 d_Mo_endMethod_23 rfl (lv_at hl 0 rfl) ?_
        refine ugf (v := .ref (yP y_h15 a0 61)) G hP h_a0 iMo rfl 61 (by decide) rfl q3125 rfl rfl d_Mo_endMethod_24 ?_
        refine lv_iload_n G.1 G.2.1 d_Mo_endMethod_27 rfl (lv_at hl 2 rfl) ?_
        refine uiald G hP (kdp h_a0 rfl) (typ h_a0 rfl) h d_Mo_endMethod_28 (fun x_75 h => ?_)
        have J_53 : ∀ (y_j53 : Ly) (s_j53 : St) (d_j53 e_j53 : Nat) (x1j53 : Int32) (x2j53 : Int32) (z0j53 : Int32) (H : Heap) (locs : List Loc), wja_Mo_endMethod_53 mc ms Post PX K_15 a0 y_j53 s_j53 d_j53 e_j53 x1j53 x2j53 z0j53 → va_P D CL (ws g ad y_j53 s_j53) H → va_D A (ws g ad y_j53 s_j53) → va_S A s.heap H locs → ∀ ls, lv_has ls 6 [(0, .ref (ad a0)), (1, .int x1j53), (2, .int x2j53)] → W p l e (ra_Mo_endMethod mc ms) s m args below meth c H locs d_j53 e_j53 Q (F0 m 53 ls [.int z0j53]) := by
          intro y_j53 s_j53 d_j53 e_j53 x1j53 x2j53 z0j53 H locs h hP hD hS ls hl
          unfold wja_Mo_endMethod_53 at h
          obtain ⟨hd, h⟩ := h
          refine lv_istore_n (lv' := [(3, .int z0j53), (0, .ref (ad a0)), (1, .int x1j53), (2, .int x2j53)]) G.1 G.2.1 d_Mo_endMethod_53 rfl hl (by decide) rfl (fun ls hl => ?_)
          refine lv_aload_n G.1 G.2.1 d_Mo_endMethod_54 rfl (lv_at hl 1 rfl) ?_
          refine ugf (v := .ref (yP y_j53 a0 61)) G hP h_a0 iMo rfl 61 (by decide) rfl q3125 rfl rfl d_Mo_endMethod_55 ?_
          refine lv_iload_n G.1 G.2.1 d_Mo_endMethod_58 rfl (lv_at hl 3 rfl) ?_
          refine uiald G hP (kdp h_a0 rfl) (typ h_a0 rfl) h d_Mo_endMethod_59 (fun x_76 h => ?_)
          refine lv_ldcw (v := (-2147483648)) G.1 G.2.1 G.2.2.2.2.2.2.1 (G.2.2.2.2.2.1 _ q3534) d_Mo_endMethod_60 ?_
          have J_96 : ∀ (y_j96 : Ly) (s_j96 : St) (d_j96 e_j96 : Nat) (x1j96 : Int32) (x2j96 : Int32) (H : Heap) (locs : List Loc), wja_Mo_endMethod_96 mc ms Post PX K_15 a0 y_j96 s_j96 d_j96 e_j96 x1j96 x2j96 → va_P D CL (ws g ad y_j96 s_j96) H → va_D A (ws g ad y_j96 s_j96) → va_S A s.heap H locs → ∀ ls, lv_has ls 6 [(0, .ref (ad a0)), (1, .int x1j96), (2, .int x2j96)] → W p l e (ra_Mo_endMethod mc ms) s m args below meth c H locs d_j96 e_j96 Q (F0 m 96 ls []) := by
            intro y_j96 s_j96 d_j96 e_j96 x1j96 x2j96 H locs h hP hD hS ls hl
            unfold wja_Mo_endMethod_96 at h
            obtain ⟨hd, h⟩ := h
            refine lv_iinc (v := x2j96 + 1) (lv' := [(2, .int (x2j96 + 1)), (0, .ref (ad a0)), (1, .int x1j96)]) G.1 G.2.1 d_Mo_endMethod_96 hl (k := 2) rfl rfl (by decide) rfl (fun ls hl => ?_)
            refine lv_goto (tgt := 15) G.1 G.2.1 d_Mo_endMethod_99 (by decide) ?_
            have h := hK_15 y_j96 s_j96 d_j96 e_j96 x1j96 (x2j96 + 1) h
            exact ih_15 y_j96 s_j96 d_j96 e_j96 x1j96 (x2j96 + 1) (Nat.lt_of_lt_of_le h.2 (Nat.le_of_lt_succ hμ_15)) h.1 H locs hP hD hS ls (lv_sub hl [1, 2, 0] rfl)
          have J_84 : ∀ (y_j84 : Ly) (s_j84 : St) (d_j84 e_j84 : Nat) (x1j84 : Int32) (x2j84 : Int32) (H : Heap) (locs : List Loc), wja_Mo_endMethod_84 mc ms Post PX K_15 a0 y_j84 s_j84 d_j84 e_j84 x1j84 x2j84 → va_P D CL (ws g ad y_j84 s_j84) H → va_D A (ws g ad y_j84 s_j84) → va_S A s.heap H locs → ∀ ls, lv_has ls 6 [(0, .ref (ad a0)), (1, .int x1j84), (2, .int x2j84)] → W p l e (ra_Mo_endMethod mc ms) s m args below meth c H locs d_j84 e_j84 Q (F0 m 84 ls []) := by
            intro y_j84 s_j84 d_j84 e_j84 x1j84 x2j84 H locs h hP hD hS ls hl
            unfold wja_Mo_endMethod_84 at h
            obtain ⟨hd, h⟩ := h
            refine lv_aload_n G.1 G.2.1 d_Mo_endMethod_84 rfl (lv_at hl 0 rfl) ?_
            refine lv_bipush (v := 9) G.1 G.2.1 d_Mo_endMethod_85 (by decide) ?_
            refine lv_aload_n G.1 G.2.1 d_Mo_endMethod_87 rfl (lv_at hl 0 rfl) ?_
            refine ugf (v := .ref (yP y_j84 a0 62)) G hP h_a0 iMo rfl 62 (by decide) rfl q3126 rfl rfl d_Mo_endMethod_88 ?_
            refine lv_iload_n G.1 G.2.1 d_Mo_endMethod_91 rfl (lv_at hl 2 rfl) ?_
            refine uiald G hP (kdp h_a0 rfl) (typ h_a0 rfl) h d_Mo_endMethod_92 (fun x_77 h => ?_)
            obtain ⟨mc_83, ms_84, hr_85, h⟩ := h
            refine uxVv (As := [.int 9, .int x_77]) (rest := []) G hP hD hS (cx_Mo_refuse l D g ad mc_83 ms_84 y_j84 _ _ s_j84 a0 9 x_77 H.size (us H) h_a0 h) (fun _ h => absurd h List.not_mem_nil) w9_Mo_refuse q3535 ⟨Nat.le_of_ble_eq_true rfl, Nat.le_of_ble_eq_true rfl⟩ rfl rfl h_a0 (q := (RMo, TMo, 131)) rfl rfl hl.1 rfl (Nat.le_of_ble_eq_true rfl) rfl hr_85 d_Mo_endMethod_93 (fun y_80 s_79 d_81 e_82 H locs q9 ce h hP hD hS hce hcv hcl => ?_) (fun y_80 s_79 d_81 e_82 H locs h hP hD hS => ?_)
            · skip
              obtain ⟨hd, h⟩ := h
              exact hretX h hP hD hS hd.1 hd.2 hce hcv hcl
            obtain ⟨hd, h⟩ := h
            exact J_96 y_80 s_79 (d_j84 + d_81) (e_j84 + e_82) x1j84 x2j84 H locs h hP hD hS ls (lv_sub hl [0, 1, 2] rfl)
          refine lv_icmp_eq (tgt := 84) G.1 G.2.1 d_Mo_endMethod_63 (by decide) (fun c63 => ?_) (fun c63 => ?_)
          · skip
            have h := h.1 c63
            exact J_84 y_j53 s_j53 d_j53 e_j53 x1j53 x2j53 H locs h hP hD hS ls (lv_sub hl [1, 2, 3] rfl)
          · skip
            have h := h.2 c63
            refine lv_iload_n G.1 G.2.1 d_Mo_endMethod_66 rfl (lv_at hl 0 rfl) ?_
            refine lv_if_lt (tgt := 84) G.1 G.2.1 d_Mo_endMethod_67 (by decide) (fun c67 => ?_) (fun c67 => ?_)
            · skip
              have h := h.1 c67
              exact J_84 y_j53 s_j53 d_j53 e_j53 x1j53 x2j53 H locs h hP hD hS ls (lv_sub hl [1, 2, 3] rfl)
            · skip
              have h := h.2 c67
              refine lv_iload_n G.1 G.2.1 d_Mo_endMethod_70 rfl (lv_at hl 0 rfl) ?_
              refine lv_iload_n G.1 G.2.1 d_Mo_endMethod_71 rfl (lv_at hl 2 rfl) ?_
              refine W.eq (g2 := F0 m 72 ls [.int x1j53, .int z0j53]) rfl ?_
              refine lv_icmp_ne (tgt := 96) G.1 G.2.1 d_Mo_endMethod_72 (by decide) (fun c72 => ?_) (fun c72 => ?_)
              · skip
                have h := h.1 c72
                exact J_96 y_j53 s_j53 d_j53 e_j53 x1j53 x2j53 H locs h hP hD hS ls (lv_sub hl [1, 2, 3] rfl)
              · skip
                have h := h.2 c72
                refine lv_aload_n G.1 G.2.1 d_Mo_endMethod_75 rfl (lv_at hl 1 rfl) ?_
                refine ugf (v := .ref (yP y_j53 a0 63)) G hP h_a0 iMo rfl 63 (by decide) rfl q3127 rfl rfl d_Mo_endMethod_76 ?_
                refine lv_iload_n G.1 G.2.1 d_Mo_endMethod_79 rfl (lv_at hl 3 rfl) ?_
                refine uzald G hP (kdp h_a0 rfl) (typ h_a0 rfl) h d_Mo_endMethod_80 (fun x_86 h => ?_)
                refine lv_if_ne (tgt := 96) G.1 G.2.1 d_Mo_endMethod_81 (by decide) (fun c81 => ?_) (fun c81 => ?_)
                · skip
                  have h := h.1 c81
                  exact J_96 y_j53 s_j53 d_j53 e_j53 x1j53 x2j53 H locs h hP hD hS ls (lv_sub hl [1, 2, 3] rfl)
                · skip
                  have h := h.2 c81
                  exact J_84 y_j53 s_j53 d_j53 e_j53 x1j53 x2j53 H locs h hP hD hS ls (lv_sub hl [1, 2, 3] rfl)
        refine lv_if_ge (tgt := 43) G.1 G.2.1 d_Mo_endMethod_29 (by decide) (fun c29 => ?_) (fun c29 => ?_)
        · skip
          have h := h.1 c29
          refine lv_aload_n G.1 G.2.1 d_Mo_endMethod_43 rfl (lv_at hl 0 rfl) ?_
          refine lv_aload_n G.1 G.2.1 d_Mo_endMethod_44 rfl (lv_at hl 0 rfl) ?_
          refine W.eq (g2 := F0 m 45 ls [.ref (ad a0), .ref (ad a0)]) rfl ?_
          refine ugf (v := .ref (yP y_h15 a0 61)) G hP h_a0 iMo rfl 61 (by decide) rfl q3125 rfl rfl d_Mo_endMethod_45 ?_
          refine lv_iload_n G.1 G.2.1 d_Mo_endMethod_48 rfl (lv_at hl 2 rfl) ?_
          refine uiald G hP (kdp h_a0 rfl) (typ h_a0 rfl) h d_Mo_endMethod_49 (fun x_87 h => ?_)
          refine ucVi (As := [.int x_87]) (rest := []) G hP hD hS (cu_Mo_labelOf l D g ad y_h15 _ s_h15 a0 x_87 H.size h_a0 h) w9_Mo_labelOf q3530 ⟨Nat.le_of_ble_eq_true rfl, Nat.le_of_ble_eq_true rfl⟩ rfl rfl h_a0 (q := (RMo, TMo, 131)) rfl rfl hl.1 rfl (Nat.le_of_ble_eq_true rfl) rfl hd d_Mo_endMethod_50 (fun r_88 s_89 H locs h hP hD hS => ?_)
          exact J_53 y_h15 s_89 d_h15 e_h15 x1h15 x2h15 r_88 H locs h hP hD hS ls (lv_sub hl [0, 1, 2] rfl)
        · skip
          have h := h.2 c29
          refine lv_iconst (v := (-1)) G.1 G.2.1 d_Mo_endMethod_32 (by decide) ?_
          refine lv_aload_n G.1 G.2.1 d_Mo_endMethod_33 rfl (lv_at hl 0 rfl) ?_
          refine W.eq (g2 := F0 m 34 ls [.ref (ad a0), .int (-1)]) rfl ?_
          refine ugf (v := .ref (yP y_h15 a0 61)) G hP h_a0 iMo rfl 61 (by decide) rfl q3125 rfl rfl d_Mo_endMethod_34 ?_
          refine lv_iload_n G.1 G.2.1 d_Mo_endMethod_37 rfl (lv_at hl 2 rfl) ?_
          refine uiald G hP (kdp h_a0 rfl) (typ h_a0 rfl) h d_Mo_endMethod_38 (fun x_90 h => ?_)
          refine lv_isub G.1 G.2.1 d_Mo_endMethod_39 ?_
          refine lv_goto (tgt := 53) G.1 G.2.1 d_Mo_endMethod_40 (by decide) ?_
          exact J_53 y_h15 s_h15 d_h15 e_h15 x1h15 x2h15 ((-1) - x_90) H locs h hP hD hS ls (lv_sub hl [0, 1, 2] rfl)
  exact L_15 _ y σ 0 0 x_4 0 (Nat.lt_succ_self _) hI_15 H locs hP hD hS ls (lv_sub hl [2, 1, 0] rfl)
def y_Mo_wrong : MethodName := ⟨"ClassWorksModel", "wrong", "()V"⟩
abbrev b_Mo_wrong : ByteArray := prog_14_method_19_code
theorem d_Mo_wrong_0 : decode b_Mo_wrong 0 = .ok (.aload_n 0, 1) := by decide +kernel
theorem d_Mo_wrong_1 : decode b_Mo_wrong 1 = .ok (.iconst 1, 1) := by decide +kernel
theorem d_Mo_wrong_2 : decode b_Mo_wrong 2 = .ok (.putfield 526, 3) := by decide +kernel
theorem d_Mo_wrong_5 : decode b_Mo_wrong 5 = .ok (.aload_n 0, 1) := by decide +kernel
theorem d_Mo_wrong_6 : decode b_Mo_wrong 6 = .ok (.aload_n 0, 1) := by decide +kernel
theorem d_Mo_wrong_7 : decode b_Mo_wrong 7 = .ok (.getfield 101, 3) := by decide +kernel
theorem d_Mo_wrong_10 : decode b_Mo_wrong 10 = .ok (.aload_n 0, 1) := by decide +kernel
theorem d_Mo_wrong_11 : decode b_Mo_wrong 11 = .ok (.getfield 104, 3) := by decide +kernel
theorem d_Mo_wrong_14 : decode b_Mo_wrong 14 = .ok (.iaload, 1) := by decide +kernel
theorem d_Mo_wrong_15 : decode b_Mo_wrong 15 = .ok (.putfield 529, 3) := by decide +kernel
theorem d_Mo_wrong_18 : decode b_Mo_wrong 18 = .ok (.aload_n 0, 1) := by decide +kernel
theorem d_Mo_wrong_19 : decode b_Mo_wrong 19 = .ok (.getfield 274, 3) := by decide +kernel
theorem d_Mo_wrong_22 : decode b_Mo_wrong 22 = .ok (.athrow, 1) := by decide +kernel
abbrev ra_Mo_wrong (mc ms : Nat) : Room := { frames := 0, cells := mc, slots := ms, locals := 0 }
def wx_Mo_wrong (mc ms : Nat) (y : Ly) (Post : Ly → St → Nat → Nat → Prop) (PX : Ly → St → Nat → Nat → Prop) (σ : St) (a0 : Nat) : Prop := xP (uV σ a0 49 1) (fun s_1 : St => xA y s_1 a0 41 (sV s_1 a0 43) (fun x_2 : Int32 => xP (uV s_1 a0 50 x_2) (fun s_3 : St => PX y s_3 0 0)))
set_option maxHeartbeats 4000000 in
set_option maxRecDepth 100000 in
theorem cx_Mo_wrong (l : Launch) (D : va_G) (g : Nat → ClassId) (ad : Nat → Nat) (mc ms : Nat) (y : Ly) (Post : Ly → St → Nat → Nat → Prop) (PX : Ly → St → Nat → Nat → Prop) (σ : St) (a0 : Nat) (sz uz : Nat) (h_a0 : cl a0 = 14) (h : wx_Mo_wrong mc ms y Post PX σ a0) : vx_Met l y_Mo_wrong (mw y_Mo_wrong b_Mo_wrong 1 (none)) (ra_Mo_wrong mc ms) (PCu g D [] [.ref (ad a0)] sz uz (ws g ad y σ)) (va_Qv (fun (u : Ly × St × Nat × Nat) => Post u.1 u.2.1 u.2.2.1 u.2.2.2) (QU D (va_A (ws g ad y σ) sz) (fun u => ws g ad u.1 u.2.1) sz uz (fun u => u.2.2.1) (fun u => u.2.2.2)) (va_A (ws g ad y σ) sz)) (XQ D g ad (va_A (ws g ad y σ) sz) sz uz PX) mc ms (va_A (ws g ad y σ) sz) := by
  refine ofVx (by decide +kernel) (Nat.le_of_ble_eq_true rfl) ?_
  intro p e s m args below meth c A Q ls H locs G hsz hP hD hS hl hret hretX
  subst hsz
  have hl : lv_has ls 1 [(0, .ref (ad a0))] := hl
  have hd : 0 ≤ mc ∧ 0 ≤ ms := ⟨Nat.zero_le _, Nat.zero_le _⟩
  unfold wx_Mo_wrong at h
  refine lv_aload_n G.1 G.2.1 d_Mo_wrong_0 rfl (lv_at hl 0 rfl) ?_
  refine lv_iconst (v := 1) G.1 G.2.1 d_Mo_wrong_1 (by decide) ?_
  refine upf G hP hD hS h 49 putV h_a0 iMo tMo tMo_ok nMo rfl (by decide) rfl q3113 rfl rfl fV rfl rfl d_Mo_wrong_2 (fun s_1 H locs h hP hD hS => ?_)
  refine lv_aload_n G.1 G.2.1 d_Mo_wrong_5 rfl (lv_at hl 0 rfl) ?_
  refine lv_aload_n G.1 G.2.1 d_Mo_wrong_6 rfl (lv_at hl 0 rfl) ?_
  refine ugf (v := .ref (yP y a0 41)) G hP h_a0 iMo rfl 41 (by decide) rfl q3105 rfl rfl d_Mo_wrong_7 ?_
  refine lv_aload_n G.1 G.2.1 d_Mo_wrong_10 rfl (lv_at hl 0 rfl) ?_
  refine ugf (v := .int (sV s_1 a0 43)) G hP h_a0 iMo rfl 43 (by decide) rfl q3107 rfl rfl d_Mo_wrong_11 ?_
  refine uiald G hP (kdp h_a0 rfl) (typ h_a0 rfl) h d_Mo_wrong_14 (fun x_2 h => ?_)
  refine upf G hP hD hS h 50 putV h_a0 iMo tMo tMo_ok nMo rfl (by decide) rfl q3114 rfl rfl fV rfl rfl d_Mo_wrong_15 (fun s_3 H locs h hP hD hS => ?_)
  refine lv_aload_n G.1 G.2.1 d_Mo_wrong_18 rfl (lv_at hl 0 rfl) ?_
  refine W.eq (g2 := F0 m 19 ls [.ref (ad a0)]) rfl ?_
  refine ugf (v := .ref (ad (lk a0 48))) G hP h_a0 iMo rfl 48 (by decide) rfl q3112 rfl rfl d_Mo_wrong_19 ?_
  refine uathrow G hP (lk_14_48 h_a0) d_Mo_wrong_22 (fun ce hce hcv hcl => ?_)
  exact hretX h hP hD hS hd.1 hd.2 hce hcv hcl
theorem q3547 : Cond.methodLink "ClassWorksModel" 541 y_Mo_takes ∈ lw_ok := lw_okmem (List.mem_of_getElem? (i := 3547) (by decide +kernel)) rfl
theorem q3550 : Cond.code y_Mo_takes b_Mo_takes 3 (some (.boolean)) ∈ lw_ok := lw_okmem (List.mem_of_getElem? (i := 3550) (by decide +kernel)) rfl
theorem q3549 : Cond.instanceMethod y_Mo_takes ∈ lw_ok := lw_okmem (List.mem_of_getElem? (i := 3549) (by decide +kernel)) rfl
theorem q190 : Cond.selects y_Mo_takes.cls y_Mo_takes y_Mo_takes ∈ lw_ok := lw_okmem (List.mem_of_getElem? (i := 190) (by decide +kernel)) rfl
theorem w9_Mo_takes : CWv y_Mo_takes b_Mo_takes 3 (some (.boolean)) 1 ∧ Cond.instanceMethod y_Mo_takes ∈ lw_ok ∧ Cond.selects y_Mo_takes.cls y_Mo_takes y_Mo_takes ∈ lw_ok := ⟨⟨q3550, q348, by decide +kernel, by decide +kernel, by decide +kernel⟩, q3549, q190⟩
theorem q3551 : Cond.methodLink "ClassWorksModel" 535 y_Mo_wrong ∈ lw_ok := lw_okmem (List.mem_of_getElem? (i := 3551) (by decide +kernel)) rfl
theorem q3554 : Cond.code y_Mo_wrong b_Mo_wrong 1 (none) ∈ lw_ok := lw_okmem (List.mem_of_getElem? (i := 3554) (by decide +kernel)) rfl
theorem q3553 : Cond.instanceMethod y_Mo_wrong ∈ lw_ok := lw_okmem (List.mem_of_getElem? (i := 3553) (by decide +kernel)) rfl
theorem q191 : Cond.selects y_Mo_wrong.cls y_Mo_wrong y_Mo_wrong ∈ lw_ok := lw_okmem (List.mem_of_getElem? (i := 191) (by decide +kernel)) rfl
theorem w9_Mo_wrong : CWv y_Mo_wrong b_Mo_wrong 1 (none) 0 ∧ Cond.instanceMethod y_Mo_wrong ∈ lw_ok ∧ Cond.selects y_Mo_wrong.cls y_Mo_wrong y_Mo_wrong ∈ lw_ok := ⟨⟨q3554, q348, by decide +kernel, by decide +kernel, by decide +kernel⟩, q3553, q191⟩
def y_Mo_needWord : MethodName := ⟨"ClassWorksModel", "needWord", "(I)V"⟩
abbrev b_Mo_needWord : ByteArray := prog_14_method_25_code
theorem d_Mo_needWord_0 : decode b_Mo_needWord 0 = .ok (.aload_n 0, 1) := by decide +kernel
theorem d_Mo_needWord_1 : decode b_Mo_needWord 1 = .ok (.iload_n 1, 1) := by decide +kernel
theorem d_Mo_needWord_2 : decode b_Mo_needWord 2 = .ok (.invokevirtual 541, 3) := by decide +kernel
theorem d_Mo_needWord_5 : decode b_Mo_needWord 5 = .ok (.ifCond .ne 7, 3) := by decide +kernel
theorem d_Mo_needWord_8 : decode b_Mo_needWord 8 = .ok (.aload_n 0, 1) := by decide +kernel
theorem d_Mo_needWord_9 : decode b_Mo_needWord 9 = .ok (.invokevirtual 535, 3) := by decide +kernel
theorem d_Mo_needWord_12 : decode b_Mo_needWord 12 = .ok (.return_, 1) := by decide +kernel
abbrev ra_Mo_needWord (mc ms : Nat) : Room := { frames := 2, cells := mc, slots := ms, locals := 43 }
def wja_Mo_needWord_12 (mc ms : Nat) (Post : Ly → St → Nat → Nat → Prop) (PX : Ly → St → Nat → Nat → Prop) (a0 : Nat) (y_j12 : Ly) (s_j12 : St) (d_j12 e_j12 : Nat) : Prop := (d_j12 ≤ mc ∧ e_j12 ≤ ms) ∧ Post y_j12 s_j12 d_j12 e_j12
def wx_Mo_needWord (mc ms : Nat) (y : Ly) (Post : Ly → St → Nat → Nat → Prop) (PX : Ly → St → Nat → Nat → Prop) (σ : St) (a0 : Nat) (v1 : Int32) : Prop := wu_Mo_takes y (fun (s_2 : St) (r_1 : Int32) => ((¬ r_1 = 0 → wja_Mo_needWord_12 mc ms Post PX a0 y s_2 0 0) ∧ (r_1 = 0 → ∃ mc_8 ms_9 : Nat, (0 + mc_8 ≤ mc ∧ 0 + ms_9 ≤ ms) ∧ wx_Mo_wrong mc_8 ms_9 y (fun (y_5 : Ly) (s_4 : St) (d_6 e_7 : Nat) => (0 + d_6 ≤ mc ∧ 0 + e_7 ≤ ms) ∧ wja_Mo_needWord_12 mc ms Post PX a0 y_5 s_4 (0 + d_6) (0 + e_7)) (fun (y_5 : Ly) (s_4 : St) (d_6 e_7 : Nat) => ((0 + d_6 ≤ mc ∧ 0 + e_7 ≤ ms) ∧ PX y_5 s_4 (0 + d_6) (0 + e_7))) s_2 a0))) σ a0 v1
set_option maxHeartbeats 4000000 in
set_option maxRecDepth 100000 in
theorem cx_Mo_needWord (l : Launch) (D : va_G) (g : Nat → ClassId) (ad : Nat → Nat) (mc ms : Nat) (y : Ly) (Post : Ly → St → Nat → Nat → Prop) (PX : Ly → St → Nat → Nat → Prop) (σ : St) (a0 : Nat) (v1 : Int32) (sz uz : Nat) (h_a0 : cl a0 = 14) (h : wx_Mo_needWord mc ms y Post PX σ a0 v1) : vx_Met l y_Mo_needWord (mw y_Mo_needWord b_Mo_needWord 2 (none)) (ra_Mo_needWord mc ms) (PCu g D [] [.ref (ad a0), .int v1] sz uz (ws g ad y σ)) (va_Qv (fun (u : Ly × St × Nat × Nat) => Post u.1 u.2.1 u.2.2.1 u.2.2.2) (QU D (va_A (ws g ad y σ) sz) (fun u => ws g ad u.1 u.2.1) sz uz (fun u => u.2.2.1) (fun u => u.2.2.2)) (va_A (ws g ad y σ) sz)) (XQ D g ad (va_A (ws g ad y σ) sz) sz uz PX) mc ms (va_A (ws g ad y σ) sz) := by
  refine ofVx (by decide +kernel) (Nat.le_of_ble_eq_true rfl) ?_
  intro p e s m args below meth c A Q ls H locs G hsz hP hD hS hl hret hretX
  subst hsz
  have hl : lv_has ls 2 [(0, .ref (ad a0)), (1, .int v1)] := hl
  have hd : 0 ≤ mc ∧ 0 ≤ ms := ⟨Nat.zero_le _, Nat.zero_le _⟩
  unfold wx_Mo_needWord at h
  refine lv_aload_n G.1 G.2.1 d_Mo_needWord_0 rfl (lv_at hl 0 rfl) ?_
  refine lv_iload_n G.1 G.2.1 d_Mo_needWord_1 rfl (lv_at hl 1 rfl) ?_
  refine ucVi (As := [.int v1]) (rest := []) G hP hD hS (cu_Mo_takes l D g ad y _ σ a0 v1 H.size h_a0 h) w9_Mo_takes q3547 ⟨Nat.le_of_ble_eq_true rfl, Nat.le_of_ble_eq_true rfl⟩ rfl rfl h_a0 (q := (RMo, TMo, 131)) rfl rfl hl.1 rfl (Nat.le_of_ble_eq_true rfl) rfl hd d_Mo_needWord_2 (fun r_1 s_2 H locs h hP hD hS => ?_)
  have J_12 : ∀ (y_j12 : Ly) (s_j12 : St) (d_j12 e_j12 : Nat) (H : Heap) (locs : List Loc), wja_Mo_needWord_12 mc ms Post PX a0 y_j12 s_j12 d_j12 e_j12 → va_P D CL (ws g ad y_j12 s_j12) H → va_D A (ws g ad y_j12 s_j12) → va_S A s.heap H locs → ∀ ls, lv_has ls 2 [] → W p l e (ra_Mo_needWord mc ms) s m args below meth c H locs d_j12 e_j12 Q (F0 m 12 ls []) := by
    intro y_j12 s_j12 d_j12 e_j12 H locs h hP hD hS ls hl
    unfold wja_Mo_needWord_12 at h
    obtain ⟨hd, h⟩ := h
    exact hret (y_j12, s_j12, d_j12, e_j12) _ _ _ _ _ ls h hP hD hS (Nat.le_refl _) (Nat.le_refl _) hd.1 hd.2 d_Mo_needWord_12
  refine lv_if_ne (tgt := 12) G.1 G.2.1 d_Mo_needWord_5 (by decide) (fun c5 => ?_) (fun c5 => ?_)
  · skip
    have h := h.1 c5
    exact J_12 y s_2 0 0 H locs h hP hD hS ls (lv_sub hl [] rfl)
  · skip
    have h := h.2 c5
    refine lv_aload_n G.1 G.2.1 d_Mo_needWord_8 rfl (lv_at hl 0 rfl) ?_
    obtain ⟨mc_8, ms_9, hr_10, h⟩ := h
    refine uxVv (As := []) (rest := []) G hP hD hS (cx_Mo_wrong l D g ad mc_8 ms_9 y _ _ s_2 a0 H.size (us H) h_a0 h) (fun _ h => absurd h List.not_mem_nil) w9_Mo_wrong q3551 ⟨Nat.le_of_ble_eq_true rfl, Nat.le_of_ble_eq_true rfl⟩ rfl rfl h_a0 (q := (RMo, TMo, 131)) rfl rfl hl.1 rfl (Nat.le_of_ble_eq_true rfl) rfl hr_10 d_Mo_needWord_9 (fun y_5 s_4 d_6 e_7 H locs q9 ce h hP hD hS hce hcv hcl => ?_) (fun y_5 s_4 d_6 e_7 H locs h hP hD hS => ?_)
    · skip
      obtain ⟨hd, h⟩ := h
      exact hretX h hP hD hS hd.1 hd.2 hce hcv hcl
    have hl := lv_sub (l' := []) hl [] rfl
    obtain ⟨hd, h⟩ := h
    exact J_12 y_5 s_4 (0 + d_6) (0 + e_7) H locs h hP hD hS ls (lv_sub hl [] rfl)
def y_Mo_need : MethodName := ⟨"ClassWorksModel", "need", "(I)V"⟩
abbrev b_Mo_need : ByteArray := prog_14_method_22_code
theorem d_Mo_need_0 : decode b_Mo_need 0 = .ok (.aload_n 0, 1) := by decide +kernel
theorem d_Mo_need_1 : decode b_Mo_need 1 = .ok (.getfield 92, 3) := by decide +kernel
theorem d_Mo_need_4 : decode b_Mo_need 4 = .ok (.aload_n 0, 1) := by decide +kernel
theorem d_Mo_need_5 : decode b_Mo_need 5 = .ok (.getfield 104, 3) := by decide +kernel
theorem d_Mo_need_8 : decode b_Mo_need 8 = .ok (.baload, 1) := by decide +kernel
theorem d_Mo_need_9 : decode b_Mo_need 9 = .ok (.iload_n 1, 1) := by decide +kernel
theorem d_Mo_need_10 : decode b_Mo_need 10 = .ok (.if_icmp .eq 7, 3) := by decide +kernel
theorem d_Mo_need_13 : decode b_Mo_need 13 = .ok (.aload_n 0, 1) := by decide +kernel
theorem d_Mo_need_14 : decode b_Mo_need 14 = .ok (.invokevirtual 535, 3) := by decide +kernel
theorem d_Mo_need_17 : decode b_Mo_need 17 = .ok (.aload_n 0, 1) := by decide +kernel
theorem d_Mo_need_18 : decode b_Mo_need 18 = .ok (.dup, 1) := by decide +kernel
theorem d_Mo_need_19 : decode b_Mo_need 19 = .ok (.getfield 104, 3) := by decide +kernel
theorem d_Mo_need_22 : decode b_Mo_need 22 = .ok (.iconst 1, 1) := by decide +kernel
theorem d_Mo_need_23 : decode b_Mo_need 23 = .ok (.iadd, 1) := by decide +kernel
theorem d_Mo_need_24 : decode b_Mo_need 24 = .ok (.putfield 104, 3) := by decide +kernel
theorem d_Mo_need_27 : decode b_Mo_need 27 = .ok (.return_, 1) := by decide +kernel
abbrev ra_Mo_need (mc ms : Nat) : Room := { frames := 1, cells := mc, slots := ms, locals := 20 }
def wja_Mo_need_17 (mc ms : Nat) (Post : Ly → St → Nat → Nat → Prop) (PX : Ly → St → Nat → Nat → Prop) (a0 : Nat) (y_j17 : Ly) (s_j17 : St) (d_j17 e_j17 : Nat) : Prop := (d_j17 ≤ mc ∧ e_j17 ≤ ms) ∧ xP (uV s_j17 a0 43 ((sV s_j17 a0 43) + 1)) (fun s_2 : St => Post y_j17 s_2 d_j17 e_j17)
def wx_Mo_need (mc ms : Nat) (y : Ly) (Post : Ly → St → Nat → Nat → Prop) (PX : Ly → St → Nat → Nat → Prop) (σ : St) (a0 : Nat) (v1 : Int32) : Prop := xA y σ a0 39 (sV σ a0 43) (fun x_1 : Int32 => ((x_1 = v1 → wja_Mo_need_17 mc ms Post PX a0 y σ 0 0) ∧ (¬ (x_1 = v1) → ∃ mc_8 ms_9 : Nat, (0 + mc_8 ≤ mc ∧ 0 + ms_9 ≤ ms) ∧ wx_Mo_wrong mc_8 ms_9 y (fun (y_5 : Ly) (s_4 : St) (d_6 e_7 : Nat) => (0 + d_6 ≤ mc ∧ 0 + e_7 ≤ ms) ∧ wja_Mo_need_17 mc ms Post PX a0 y_5 s_4 (0 + d_6) (0 + e_7)) (fun (y_5 : Ly) (s_4 : St) (d_6 e_7 : Nat) => ((0 + d_6 ≤ mc ∧ 0 + e_7 ≤ ms) ∧ PX y_5 s_4 (0 + d_6) (0 + e_7))) σ a0)))
set_option maxHeartbeats 4000000 in
set_option maxRecDepth 100000 in
theorem cx_Mo_need (l : Launch) (D : va_G) (g : Nat → ClassId) (ad : Nat → Nat) (mc ms : Nat) (y : Ly) (Post : Ly → St → Nat → Nat → Prop) (PX : Ly → St → Nat → Nat → Prop) (σ : St) (a0 : Nat) (v1 : Int32) (sz uz : Nat) (h_a0 : cl a0 = 14) (h : wx_Mo_need mc ms y Post PX σ a0 v1) : vx_Met l y_Mo_need (mw y_Mo_need b_Mo_need 2 (none)) (ra_Mo_need mc ms) (PCu g D [] [.ref (ad a0), .int v1] sz uz (ws g ad y σ)) (va_Qv (fun (u : Ly × St × Nat × Nat) => Post u.1 u.2.1 u.2.2.1 u.2.2.2) (QU D (va_A (ws g ad y σ) sz) (fun u => ws g ad u.1 u.2.1) sz uz (fun u => u.2.2.1) (fun u => u.2.2.2)) (va_A (ws g ad y σ) sz)) (XQ D g ad (va_A (ws g ad y σ) sz) sz uz PX) mc ms (va_A (ws g ad y σ) sz) := by
  refine ofVx (by decide +kernel) (Nat.le_of_ble_eq_true rfl) ?_
  intro p e s m args below meth c A Q ls H locs G hsz hP hD hS hl hret hretX
  subst hsz
  have hl : lv_has ls 2 [(0, .ref (ad a0)), (1, .int v1)] := hl
  have hd : 0 ≤ mc ∧ 0 ≤ ms := ⟨Nat.zero_le _, Nat.zero_le _⟩
  unfold wx_Mo_need at h
  refine lv_aload_n G.1 G.2.1 d_Mo_need_0 rfl (lv_at hl 0 rfl) ?_
  refine ugf (v := .ref (yP y a0 39)) G hP h_a0 iMo rfl 39 (by decide) rfl q3103 rfl rfl d_Mo_need_1 ?_
  refine lv_aload_n G.1 G.2.1 d_Mo_need_4 rfl (lv_at hl 0 rfl) ?_
  refine ugf (v := .int (sV σ a0 43)) G hP h_a0 iMo rfl 43 (by decide) rfl q3107 rfl rfl d_Mo_need_5 ?_
  refine ubald G hP (kdp h_a0 rfl) (typ h_a0 rfl) h d_Mo_need_8 (fun x_1 h => ?_)
  refine lv_iload_n G.1 G.2.1 d_Mo_need_9 rfl (lv_at hl 1 rfl) ?_
  have J_17 : ∀ (y_j17 : Ly) (s_j17 : St) (d_j17 e_j17 : Nat) (H : Heap) (locs : List Loc), wja_Mo_need_17 mc ms Post PX a0 y_j17 s_j17 d_j17 e_j17 → va_P D CL (ws g ad y_j17 s_j17) H → va_D A (ws g ad y_j17 s_j17) → va_S A s.heap H locs → ∀ ls, lv_has ls 2 [(0, .ref (ad a0))] → W p l e (ra_Mo_need mc ms) s m args below meth c H locs d_j17 e_j17 Q (F0 m 17 ls []) := by
    intro y_j17 s_j17 d_j17 e_j17 H locs h hP hD hS ls hl
    unfold wja_Mo_need_17 at h
    obtain ⟨hd, h⟩ := h
    refine lv_aload_n G.1 G.2.1 d_Mo_need_17 rfl (lv_at hl 0 rfl) ?_
    refine lv_dup G.1 G.2.1 d_Mo_need_18 rfl ?_
    refine ugf (v := .int (sV s_j17 a0 43)) G hP h_a0 iMo rfl 43 (by decide) rfl q3107 rfl rfl d_Mo_need_19 ?_
    refine lv_iconst (v := 1) G.1 G.2.1 d_Mo_need_22 (by decide) ?_
    refine lv_iadd G.1 G.2.1 d_Mo_need_23 ?_
    refine upf G hP hD hS h 43 putV h_a0 iMo tMo tMo_ok nMo rfl (by decide) rfl q3107 rfl rfl fV rfl rfl d_Mo_need_24 (fun s_2 H locs h hP hD hS => ?_)
    exact hret (y_j17, s_2, d_j17, e_j17) _ _ _ _ _ ls h hP hD hS (Nat.le_refl _) (Nat.le_refl _) hd.1 hd.2 d_Mo_need_27
  refine lv_icmp_eq (tgt := 17) G.1 G.2.1 d_Mo_need_10 (by decide) (fun c10 => ?_) (fun c10 => ?_)
  · skip
    have h := h.1 c10
    exact J_17 y σ 0 0 H locs h hP hD hS ls (lv_sub hl [0] rfl)
  · skip
    have h := h.2 c10
    refine lv_aload_n G.1 G.2.1 d_Mo_need_13 rfl (lv_at hl 0 rfl) ?_
    obtain ⟨mc_8, ms_9, hr_10, h⟩ := h
    refine uxVv (As := []) (rest := []) G hP hD hS (cx_Mo_wrong l D g ad mc_8 ms_9 y _ _ σ a0 H.size (us H) h_a0 h) (fun _ h => absurd h List.not_mem_nil) w9_Mo_wrong q3551 ⟨Nat.le_of_ble_eq_true rfl, Nat.le_of_ble_eq_true rfl⟩ rfl rfl h_a0 (q := (RMo, TMo, 131)) rfl rfl hl.1 rfl (Nat.le_of_ble_eq_true rfl) rfl hr_10 d_Mo_need_14 (fun y_5 s_4 d_6 e_7 H locs q9 ce h hP hD hS hce hcv hcl => ?_) (fun y_5 s_4 d_6 e_7 H locs h hP hD hS => ?_)
    · skip
      obtain ⟨hd, h⟩ := h
      exact hretX h hP hD hS hd.1 hd.2 hce hcv hcl
    have hl := lv_sub (l' := [(0, .ref (ad a0))]) hl [0] rfl
    obtain ⟨hd, h⟩ := h
    exact J_17 y_5 s_4 (0 + d_6) (0 + e_7) H locs h hP hD hS ls (lv_sub hl [0] rfl)
theorem q3567 : Cond.methodLink "ClassWorksModel" 544 y_Mo_need ∈ lw_ok := lw_okmem (List.mem_of_getElem? (i := 3567) (by decide +kernel)) rfl
theorem q3570 : Cond.code y_Mo_need b_Mo_need 2 (none) ∈ lw_ok := lw_okmem (List.mem_of_getElem? (i := 3570) (by decide +kernel)) rfl
theorem q3569 : Cond.instanceMethod y_Mo_need ∈ lw_ok := lw_okmem (List.mem_of_getElem? (i := 3569) (by decide +kernel)) rfl
theorem q195 : Cond.selects y_Mo_need.cls y_Mo_need y_Mo_need ∈ lw_ok := lw_okmem (List.mem_of_getElem? (i := 195) (by decide +kernel)) rfl
theorem w9_Mo_need : CWv y_Mo_need b_Mo_need 2 (none) 1 ∧ Cond.instanceMethod y_Mo_need ∈ lw_ok ∧ Cond.selects y_Mo_need.cls y_Mo_need y_Mo_need ∈ lw_ok := ⟨⟨q3570, q348, by decide +kernel, by decide +kernel, by decide +kernel⟩, q3569, q195⟩
def y_Mo_plainName : MethodName := ⟨"ClassWorksModel", "plainName", "()I"⟩
abbrev b_Mo_plainName : ByteArray := prog_14_method_26_code
theorem d_Mo_plainName_0 : decode b_Mo_plainName 0 = .ok (.aload_n 0, 1) := by decide +kernel
theorem d_Mo_plainName_1 : decode b_Mo_plainName 1 = .ok (.getfield 98, 3) := by decide +kernel
theorem d_Mo_plainName_4 : decode b_Mo_plainName 4 = .ok (.aload_n 0, 1) := by decide +kernel
theorem d_Mo_plainName_5 : decode b_Mo_plainName 5 = .ok (.getfield 104, 3) := by decide +kernel
theorem d_Mo_plainName_8 : decode b_Mo_plainName 8 = .ok (.iaload, 1) := by decide +kernel
theorem d_Mo_plainName_9 : decode b_Mo_plainName 9 = .ok (.istore_n 1, 1) := by decide +kernel
theorem d_Mo_plainName_10 : decode b_Mo_plainName 10 = .ok (.aload_n 0, 1) := by decide +kernel
theorem d_Mo_plainName_11 : decode b_Mo_plainName 11 = .ok (.iconst 2, 1) := by decide +kernel
theorem d_Mo_plainName_12 : decode b_Mo_plainName 12 = .ok (.invokevirtual 544, 3) := by decide +kernel
theorem d_Mo_plainName_15 : decode b_Mo_plainName 15 = .ok (.iload_n 1, 1) := by decide +kernel
theorem d_Mo_plainName_16 : decode b_Mo_plainName 16 = .ok (.ireturn, 1) := by decide +kernel
abbrev ra_Mo_plainName (mc ms : Nat) : Room := { frames := 2, cells := mc, slots := ms, locals := 41 }
def wx_Mo_plainName (mc ms : Nat) (y : Ly) (Post : Ly → St → Int32 → Nat → Nat → Prop) (PX : Ly → St → Nat → Nat → Prop) (σ : St) (a0 : Nat) : Prop := xA y σ a0 40 (sV σ a0 43) (fun x_1 : Int32 => ∃ mc_7 ms_8 : Nat, (0 + mc_7 ≤ mc ∧ 0 + ms_8 ≤ ms) ∧ wx_Mo_need mc_7 ms_8 y (fun (y_4 : Ly) (s_3 : St) (d_5 e_6 : Nat) => (0 + d_5 ≤ mc ∧ 0 + e_6 ≤ ms) ∧ Post y_4 s_3 x_1 (0 + d_5) (0 + e_6)) (fun (y_4 : Ly) (s_3 : St) (d_5 e_6 : Nat) => ((0 + d_5 ≤ mc ∧ 0 + e_6 ≤ ms) ∧ PX y_4 s_3 (0 + d_5) (0 + e_6))) σ a0 2)
set_option maxHeartbeats 4000000 in
set_option maxRecDepth 100000 in
theorem cx_Mo_plainName (l : Launch) (D : va_G) (g : Nat → ClassId) (ad : Nat → Nat) (mc ms : Nat) (y : Ly) (Post : Ly → St → Int32 → Nat → Nat → Prop) (PX : Ly → St → Nat → Nat → Prop) (σ : St) (a0 : Nat) (sz uz : Nat) (h_a0 : cl a0 = 14) (h : wx_Mo_plainName mc ms y Post PX σ a0) : vx_Met l y_Mo_plainName (mw y_Mo_plainName b_Mo_plainName 2 (some .int)) (ra_Mo_plainName mc ms) (PCu g D [] [.ref (ad a0)] sz uz (ws g ad y σ)) (va_Qi (fun (r : Int32) (u : Ly × St × Nat × Nat) => Post u.1 u.2.1 r u.2.2.1 u.2.2.2) (QU D (va_A (ws g ad y σ) sz) (fun u => ws g ad u.1 u.2.1) sz uz (fun u => u.2.2.1) (fun u => u.2.2.2)) (va_A (ws g ad y σ) sz)) (XQ D g ad (va_A (ws g ad y σ) sz) sz uz PX) mc ms (va_A (ws g ad y σ) sz) := by
  refine ofIx (by decide +kernel) (Nat.le_of_ble_eq_true rfl) ?_
  intro p e s m args below meth c A Q ls H locs G hsz hP hD hS hl hret hretX
  subst hsz
  have hl : lv_has ls 2 [(0, .ref (ad a0))] := hl
  have hd : 0 ≤ mc ∧ 0 ≤ ms := ⟨Nat.zero_le _, Nat.zero_le _⟩
  unfold wx_Mo_plainName at h
  refine lv_aload_n G.1 G.2.1 d_Mo_plainName_0 rfl (lv_at hl 0 rfl) ?_
  refine ugf (v := .ref (yP y a0 40)) G hP h_a0 iMo rfl 40 (by decide) rfl q3104 rfl rfl d_Mo_plainName_1 ?_
  refine lv_aload_n G.1 G.2.1 d_Mo_plainName_4 rfl (lv_at hl 0 rfl) ?_
  refine ugf (v := .int (sV σ a0 43)) G hP h_a0 iMo rfl 43 (by decide) rfl q3107 rfl rfl d_Mo_plainName_5 ?_
  refine uiald G hP (kdp h_a0 rfl) (typ h_a0 rfl) h d_Mo_plainName_8 (fun x_1 h => ?_)
  refine lv_istore_n (lv' := [(1, .int x_1), (0, .ref (ad a0))]) G.1 G.2.1 d_Mo_plainName_9 rfl hl (by decide) rfl (fun ls hl => ?_)
  refine lv_aload_n G.1 G.2.1 d_Mo_plainName_10 rfl (lv_at hl 1 rfl) ?_
  refine lv_iconst (v := 2) G.1 G.2.1 d_Mo_plainName_11 (by decide) ?_
  obtain ⟨mc_7, ms_8, hr_9, h⟩ := h
  refine uxVv (As := [.int 2]) (rest := []) G hP hD hS (cx_Mo_need l D g ad mc_7 ms_8 y _ _ σ a0 2 H.size (us H) h_a0 h) (fun _ h => absurd h List.not_mem_nil) w9_Mo_need q3567 ⟨Nat.le_of_ble_eq_true rfl, Nat.le_of_ble_eq_true rfl⟩ rfl rfl h_a0 (q := (RMo, TMo, 131)) rfl rfl hl.1 rfl (Nat.le_of_ble_eq_true rfl) rfl hr_9 d_Mo_plainName_12 (fun y_4 s_3 d_5 e_6 H locs q9 ce h hP hD hS hce hcv hcl => ?_) (fun y_4 s_3 d_5 e_6 H locs h hP hD hS => ?_)
  · skip
    obtain ⟨hd, h⟩ := h
    exact hretX h hP hD hS hd.1 hd.2 hce hcv hcl
  have hl := lv_sub (l' := [(1, .int x_1)]) hl [0] rfl
  obtain ⟨hd, h⟩ := h
  refine lv_iload_n G.1 G.2.1 d_Mo_plainName_15 rfl (lv_at hl 0 rfl) ?_
  exact hret _ (y_4, s_3, 0 + d_5, 0 + e_6) _ _ _ _ _ ls h hP hD hS (Nat.le_refl _) (Nat.le_refl _) hd.1 hd.2 d_Mo_plainName_16
theorem q3563 : Cond.methodLink "ClassWorksModel" 551 y_Mo_plainName ∈ lw_ok := lw_okmem (List.mem_of_getElem? (i := 3563) (by decide +kernel)) rfl
theorem q3566 : Cond.code y_Mo_plainName b_Mo_plainName 2 (some .int) ∈ lw_ok := lw_okmem (List.mem_of_getElem? (i := 3566) (by decide +kernel)) rfl
theorem q3565 : Cond.instanceMethod y_Mo_plainName ∈ lw_ok := lw_okmem (List.mem_of_getElem? (i := 3565) (by decide +kernel)) rfl
theorem q194 : Cond.selects y_Mo_plainName.cls y_Mo_plainName y_Mo_plainName ∈ lw_ok := lw_okmem (List.mem_of_getElem? (i := 194) (by decide +kernel)) rfl
theorem w9_Mo_plainName : CWv y_Mo_plainName b_Mo_plainName 2 (some .int) 0 ∧ Cond.instanceMethod y_Mo_plainName ∈ lw_ok ∧ Cond.selects y_Mo_plainName.cls y_Mo_plainName y_Mo_plainName ∈ lw_ok := ⟨⟨q3566, q348, by decide +kernel, by decide +kernel, by decide +kernel⟩, q3565, q194⟩
theorem q3559 : Cond.methodLink "ClassWorksModel" 548 y_Mo_isClassName ∈ lw_ok := lw_okmem (List.mem_of_getElem? (i := 3559) (by decide +kernel)) rfl
theorem q3562 : Cond.code y_Mo_isClassName b_Mo_isClassName 2 (some (.boolean)) ∈ lw_ok := lw_okmem (List.mem_of_getElem? (i := 3562) (by decide +kernel)) rfl
theorem q3561 : Cond.instanceMethod y_Mo_isClassName ∈ lw_ok := lw_okmem (List.mem_of_getElem? (i := 3561) (by decide +kernel)) rfl
theorem q193 : Cond.selects y_Mo_isClassName.cls y_Mo_isClassName y_Mo_isClassName ∈ lw_ok := lw_okmem (List.mem_of_getElem? (i := 193) (by decide +kernel)) rfl
theorem w9_Mo_isClassName : CWv y_Mo_isClassName b_Mo_isClassName 2 (some (.boolean)) 1 ∧ Cond.instanceMethod y_Mo_isClassName ∈ lw_ok ∧ Cond.selects y_Mo_isClassName.cls y_Mo_isClassName y_Mo_isClassName ∈ lw_ok := ⟨⟨q3562, q348, by decide +kernel, by decide +kernel, by decide +kernel⟩, q3561, q193⟩
def y_Mo_className : MethodName := ⟨"ClassWorksModel", "className", "()I"⟩
abbrev b_Mo_className : ByteArray := prog_14_method_28_code
theorem d_Mo_className_0 : decode b_Mo_className 0 = .ok (.aload_n 0, 1) := by decide +kernel
theorem d_Mo_className_1 : decode b_Mo_className 1 = .ok (.getfield 92, 3) := by decide +kernel
theorem d_Mo_className_4 : decode b_Mo_className 4 = .ok (.aload_n 0, 1) := by decide +kernel
theorem d_Mo_className_5 : decode b_Mo_className 5 = .ok (.getfield 104, 3) := by decide +kernel
theorem d_Mo_className_8 : decode b_Mo_className 8 = .ok (.baload, 1) := by decide +kernel
theorem d_Mo_className_9 : decode b_Mo_className 9 = .ok (.iconst 2, 1) := by decide +kernel
theorem d_Mo_className_10 : decode b_Mo_className 10 = .ok (.if_icmp .ne 19, 3) := by decide +kernel
theorem d_Mo_className_13 : decode b_Mo_className 13 = .ok (.aload_n 0, 1) := by decide +kernel
theorem d_Mo_className_14 : decode b_Mo_className 14 = .ok (.aload_n 0, 1) := by decide +kernel
theorem d_Mo_className_15 : decode b_Mo_className 15 = .ok (.getfield 98, 3) := by decide +kernel
theorem d_Mo_className_18 : decode b_Mo_className 18 = .ok (.aload_n 0, 1) := by decide +kernel
theorem d_Mo_className_19 : decode b_Mo_className 19 = .ok (.getfield 104, 3) := by decide +kernel
theorem d_Mo_className_22 : decode b_Mo_className 22 = .ok (.iaload, 1) := by decide +kernel
theorem d_Mo_className_23 : decode b_Mo_className 23 = .ok (.invokevirtual 548, 3) := by decide +kernel
theorem d_Mo_className_26 : decode b_Mo_className 26 = .ok (.ifCond .ne 7, 3) := by decide +kernel
theorem d_Mo_className_29 : decode b_Mo_className 29 = .ok (.aload_n 0, 1) := by decide +kernel
theorem d_Mo_className_30 : decode b_Mo_className 30 = .ok (.invokevirtual 535, 3) := by decide +kernel
theorem d_Mo_className_33 : decode b_Mo_className 33 = .ok (.aload_n 0, 1) := by decide +kernel
theorem d_Mo_className_34 : decode b_Mo_className 34 = .ok (.invokevirtual 551, 3) := by decide +kernel
theorem d_Mo_className_37 : decode b_Mo_className 37 = .ok (.ireturn, 1) := by decide +kernel
abbrev ra_Mo_className (mc ms : Nat) : Room := { frames := 3, cells := mc, slots := ms, locals := 62 }
def wja_Mo_className_33 (mc ms : Nat) (Post : Ly → St → Int32 → Nat → Nat → Prop) (PX : Ly → St → Nat → Nat → Prop) (a0 : Nat) (y_j33 : Ly) (s_j33 : St) (d_j33 e_j33 : Nat) : Prop := (d_j33 ≤ mc ∧ e_j33 ≤ ms) ∧ ∃ mc_7 ms_8 : Nat, (d_j33 + mc_7 ≤ mc ∧ e_j33 + ms_8 ≤ ms) ∧ wx_Mo_plainName mc_7 ms_8 y_j33 (fun (y_4 : Ly) (s_3 : St) (r_2 : Int32) (d_5 e_6 : Nat) => (d_j33 + d_5 ≤ mc ∧ e_j33 + e_6 ≤ ms) ∧ Post y_4 s_3 r_2 (d_j33 + d_5) (e_j33 + e_6)) (fun (y_4 : Ly) (s_3 : St) (d_5 e_6 : Nat) => ((d_j33 + d_5 ≤ mc ∧ e_j33 + e_6 ≤ ms) ∧ PX y_4 s_3 (d_j33 + d_5) (e_j33 + e_6))) s_j33 a0
def wja_Mo_className_29 (mc ms : Nat) (Post : Ly → St → Int32 → Nat → Nat → Prop) (PX : Ly → St → Nat → Nat → Prop) (a0 : Nat) (y_j29 : Ly) (s_j29 : St) (d_j29 e_j29 : Nat) : Prop := (d_j29 ≤ mc ∧ e_j29 ≤ ms) ∧ ∃ mc_15 ms_16 : Nat, (d_j29 + mc_15 ≤ mc ∧ e_j29 + ms_16 ≤ ms) ∧ wx_Mo_wrong mc_15 ms_16 y_j29 (fun (y_12 : Ly) (s_11 : St) (d_13 e_14 : Nat) => (d_j29 + d_13 ≤ mc ∧ e_j29 + e_14 ≤ ms) ∧ wja_Mo_className_33 mc ms Post PX a0 y_12 s_11 (d_j29 + d_13) (e_j29 + e_14)) (fun (y_12 : Ly) (s_11 : St) (d_13 e_14 : Nat) => ((d_j29 + d_13 ≤ mc ∧ e_j29 + e_14 ≤ ms) ∧ PX y_12 s_11 (d_j29 + d_13) (e_j29 + e_14))) s_j29 a0
def wx_Mo_className (mc ms : Nat) (y : Ly) (Post : Ly → St → Int32 → Nat → Nat → Prop) (PX : Ly → St → Nat → Nat → Prop) (σ : St) (a0 : Nat) : Prop := xA y σ a0 39 (sV σ a0 43) (fun x_1 : Int32 => ((¬ x_1 = 2 → wja_Mo_className_29 mc ms Post PX a0 y σ 0 0) ∧ (x_1 = 2 → xA y σ a0 40 (sV σ a0 43) (fun x_18 : Int32 => wu_Mo_isClassName y (fun (s_20 : St) (r_19 : Int32) => ((¬ r_19 = 0 → wja_Mo_className_33 mc ms Post PX a0 y s_20 0 0) ∧ (r_19 = 0 → wja_Mo_className_29 mc ms Post PX a0 y s_20 0 0))) σ a0 x_18))))
set_option maxHeartbeats 4000000 in
set_option maxRecDepth 100000 in
theorem cx_Mo_className (l : Launch) (D : va_G) (g : Nat → ClassId) (ad : Nat → Nat) (mc ms : Nat) (y : Ly) (Post : Ly → St → Int32 → Nat → Nat → Prop) (PX : Ly → St → Nat → Nat → Prop) (σ : St) (a0 : Nat) (sz uz : Nat) (h_a0 : cl a0 = 14) (h : wx_Mo_className mc ms y Post PX σ a0) : vx_Met l y_Mo_className (mw y_Mo_className b_Mo_className 1 (some .int)) (ra_Mo_className mc ms) (PCu g D [] [.ref (ad a0)] sz uz (ws g ad y σ)) (va_Qi (fun (r : Int32) (u : Ly × St × Nat × Nat) => Post u.1 u.2.1 r u.2.2.1 u.2.2.2) (QU D (va_A (ws g ad y σ) sz) (fun u => ws g ad u.1 u.2.1) sz uz (fun u => u.2.2.1) (fun u => u.2.2.2)) (va_A (ws g ad y σ) sz)) (XQ D g ad (va_A (ws g ad y σ) sz) sz uz PX) mc ms (va_A (ws g ad y σ) sz) := by
  refine ofIx (by decide +kernel) (Nat.le_of_ble_eq_true rfl) ?_
  intro p e s m args below meth c A Q ls H locs G hsz hP hD hS hl hret hretX
  subst hsz
  have hl : lv_has ls 1 [(0, .ref (ad a0))] := hl
  have hd : 0 ≤ mc ∧ 0 ≤ ms := ⟨Nat.zero_le _, Nat.zero_le _⟩
  unfold wx_Mo_className at h
  refine lv_aload_n G.1 G.2.1 d_Mo_className_0 rfl (lv_at hl 0 rfl) ?_
  refine ugf (v := .ref (yP y a0 39)) G hP h_a0 iMo rfl 39 (by decide) rfl q3103 rfl rfl d_Mo_className_1 ?_
  refine lv_aload_n G.1 G.2.1 d_Mo_className_4 rfl (lv_at hl 0 rfl) ?_
  refine ugf (v := .int (sV σ a0 43)) G hP h_a0 iMo rfl 43 (by decide) rfl q3107 rfl rfl d_Mo_className_5 ?_
  refine ubald G hP (kdp h_a0 rfl) (typ h_a0 rfl) h d_Mo_className_8 (fun x_1 h => ?_)
  refine lv_iconst (v := 2) G.1 G.2.1 d_Mo_className_9 (by decide) ?_
  have J_33 : ∀ (y_j33 : Ly) (s_j33 : St) (d_j33 e_j33 : Nat) (H : Heap) (locs : List Loc), wja_Mo_className_33 mc ms Post PX a0 y_j33 s_j33 d_j33 e_j33 → va_P D CL (ws g ad y_j33 s_j33) H → va_D A (ws g ad y_j33 s_j33) → va_S A s.heap H locs → ∀ ls, lv_has ls 1 [(0, .ref (ad a0))] → W p l e (ra_Mo_className mc ms) s m args below meth c H locs d_j33 e_j33 Q (F0 m 33 ls []) := by
    intro y_j33 s_j33 d_j33 e_j33 H locs h hP hD hS ls hl
    unfold wja_Mo_className_33 at h
    obtain ⟨hd, h⟩ := h
    refine lv_aload_n G.1 G.2.1 d_Mo_className_33 rfl (lv_at hl 0 rfl) ?_
    obtain ⟨mc_7, ms_8, hr_9, h⟩ := h
    refine uxVi (As := []) (rest := []) G hP hD hS (cx_Mo_plainName l D g ad mc_7 ms_8 y_j33 _ _ s_j33 a0 H.size (us H) h_a0 h) (fun _ h => absurd h List.not_mem_nil) w9_Mo_plainName q3563 ⟨Nat.le_of_ble_eq_true rfl, Nat.le_of_ble_eq_true rfl⟩ rfl rfl h_a0 (q := (RMo, TMo, 131)) rfl rfl hl.1 rfl (Nat.le_of_ble_eq_true rfl) rfl hr_9 d_Mo_className_34 (fun y_4 s_3 d_5 e_6 H locs q9 ce h hP hD hS hce hcv hcl => ?_) (fun r_2 y_4 s_3 d_5 e_6 H locs h hP hD hS => ?_)
    · skip
      obtain ⟨hd, h⟩ := h
      exact hretX h hP hD hS hd.1 hd.2 hce hcv hcl
    have hl := lv_sub (l' := []) hl [] rfl
    obtain ⟨hd, h⟩ := h
    exact hret _ (y_4, s_3, d_j33 + d_5, e_j33 + e_6) _ _ _ _ _ ls h hP hD hS (Nat.le_refl _) (Nat.le_refl _) hd.1 hd.2 d_Mo_className_37
  have J_29 : ∀ (y_j29 : Ly) (s_j29 : St) (d_j29 e_j29 : Nat) (H : Heap) (locs : List Loc), wja_Mo_className_29 mc ms Post PX a0 y_j29 s_j29 d_j29 e_j29 → va_P D CL (ws g ad y_j29 s_j29) H → va_D A (ws g ad y_j29 s_j29) → va_S A s.heap H locs → ∀ ls, lv_has ls 1 [(0, .ref (ad a0))] → W p l e (ra_Mo_className mc ms) s m args below meth c H locs d_j29 e_j29 Q (F0 m 29 ls []) := by
    intro y_j29 s_j29 d_j29 e_j29 H locs h hP hD hS ls hl
    unfold wja_Mo_className_29 at h
    obtain ⟨hd, h⟩ := h
    refine lv_aload_n G.1 G.2.1 d_Mo_className_29 rfl (lv_at hl 0 rfl) ?_
    obtain ⟨mc_15, ms_16, hr_17, h⟩ := h
    refine uxVv (As := []) (rest := []) G hP hD hS (cx_Mo_wrong l D g ad mc_15 ms_16 y_j29 _ _ s_j29 a0 H.size (us H) h_a0 h) (fun _ h => absurd h List.not_mem_nil) w9_Mo_wrong q3551 ⟨Nat.le_of_ble_eq_true rfl, Nat.le_of_ble_eq_true rfl⟩ rfl rfl h_a0 (q := (RMo, TMo, 131)) rfl rfl hl.1 rfl (Nat.le_of_ble_eq_true rfl) rfl hr_17 d_Mo_className_30 (fun y_12 s_11 d_13 e_14 H locs q9 ce h hP hD hS hce hcv hcl => ?_) (fun y_12 s_11 d_13 e_14 H locs h hP hD hS => ?_)
    · skip
      obtain ⟨hd, h⟩ := h
      exact hretX h hP hD hS hd.1 hd.2 hce hcv hcl
    obtain ⟨hd, h⟩ := h
    exact J_33 y_12 s_11 (d_j29 + d_13) (e_j29 + e_14) H locs h hP hD hS ls (lv_sub hl [0] rfl)
  refine lv_icmp_ne (tgt := 29) G.1 G.2.1 d_Mo_className_10 (by decide) (fun c10 => ?_) (fun c10 => ?_)
  · skip
    have h := h.1 c10
    exact J_29 y σ 0 0 H locs h hP hD hS ls (lv_sub hl [0] rfl)
  · skip
    have h := h.2 c10
    refine lv_aload_n G.1 G.2.1 d_Mo_className_13 rfl (lv_at hl 0 rfl) ?_
    refine lv_aload_n G.1 G.2.1 d_Mo_className_14 rfl (lv_at hl 0 rfl) ?_
    refine ugf (v := .ref (yP y a0 40)) G hP h_a0 iMo rfl 40 (by decide) rfl q3104 rfl rfl d_Mo_className_15 ?_
    refine lv_aload_n G.1 G.2.1 d_Mo_className_18 rfl (lv_at hl 0 rfl) ?_
    refine W.eq (g2 := F0 m 19 ls [.ref (ad a0), .ref (yP y a0 40), .ref (ad a0)]) rfl ?_
    refine ugf (v := .int (sV σ a0 43)) G hP h_a0 iMo rfl 43 (by decide) rfl q3107 rfl rfl d_Mo_className_19 ?_
    refine uiald G hP (kdp h_a0 rfl) (typ h_a0 rfl) h d_Mo_className_22 (fun x_18 h => ?_)
    refine ucVi (As := [.int x_18]) (rest := []) G hP hD hS (cu_Mo_isClassName l D g ad y _ σ a0 x_18 H.size h_a0 h) w9_Mo_isClassName q3559 ⟨Nat.le_of_ble_eq_true rfl, Nat.le_of_ble_eq_true rfl⟩ rfl rfl h_a0 (q := (RMo, TMo, 131)) rfl rfl hl.1 rfl (Nat.le_of_ble_eq_true rfl) rfl hd d_Mo_className_23 (fun r_19 s_20 H locs h hP hD hS => ?_)
    refine lv_if_ne (tgt := 33) G.1 G.2.1 d_Mo_className_26 (by decide) (fun c26 => ?_) (fun c26 => ?_)
    · skip
      have h := h.1 c26
      exact J_33 y s_20 0 0 H locs h hP hD hS ls (lv_sub hl [0] rfl)
    · skip
      have h := h.2 c26
      exact J_29 y s_20 0 0 H locs h hP hD hS ls (lv_sub hl [0] rfl)
theorem q3073 : Cond.fieldLink "ClassWorksModel" 158 "ClassWorksModel" "kClass" "I" ∈ lw_ok := lw_okmem (List.mem_of_getElem? (i := 3073) (by decide +kernel)) rfl
theorem q3543 : Cond.methodLink "ClassWorksModel" 592 y_Mo_needWord ∈ lw_ok := lw_okmem (List.mem_of_getElem? (i := 3543) (by decide +kernel)) rfl
theorem q3546 : Cond.code y_Mo_needWord b_Mo_needWord 2 (none) ∈ lw_ok := lw_okmem (List.mem_of_getElem? (i := 3546) (by decide +kernel)) rfl
theorem q3545 : Cond.instanceMethod y_Mo_needWord ∈ lw_ok := lw_okmem (List.mem_of_getElem? (i := 3545) (by decide +kernel)) rfl
theorem q189 : Cond.selects y_Mo_needWord.cls y_Mo_needWord y_Mo_needWord ∈ lw_ok := lw_okmem (List.mem_of_getElem? (i := 189) (by decide +kernel)) rfl
theorem w9_Mo_needWord : CWv y_Mo_needWord b_Mo_needWord 2 (none) 1 ∧ Cond.instanceMethod y_Mo_needWord ∈ lw_ok ∧ Cond.selects y_Mo_needWord.cls y_Mo_needWord y_Mo_needWord ∈ lw_ok := ⟨⟨q3546, q348, by decide +kernel, by decide +kernel, by decide +kernel⟩, q3545, q189⟩
theorem q3555 : Cond.methodLink "ClassWorksModel" 554 y_Mo_className ∈ lw_ok := lw_okmem (List.mem_of_getElem? (i := 3555) (by decide +kernel)) rfl
theorem q3558 : Cond.code y_Mo_className b_Mo_className 1 (some .int) ∈ lw_ok := lw_okmem (List.mem_of_getElem? (i := 3558) (by decide +kernel)) rfl
theorem q3557 : Cond.instanceMethod y_Mo_className ∈ lw_ok := lw_okmem (List.mem_of_getElem? (i := 3557) (by decide +kernel)) rfl
theorem q192 : Cond.selects y_Mo_className.cls y_Mo_className y_Mo_className ∈ lw_ok := lw_okmem (List.mem_of_getElem? (i := 192) (by decide +kernel)) rfl
theorem w9_Mo_className : CWv y_Mo_className b_Mo_className 1 (some .int) 0 ∧ Cond.instanceMethod y_Mo_className ∈ lw_ok ∧ Cond.selects y_Mo_className.cls y_Mo_className y_Mo_className ∈ lw_ok := ⟨⟨q3558, q348, by decide +kernel, by decide +kernel, by decide +kernel⟩, q3557, q192⟩
theorem q3575 : Cond.methodLink "ClassWorksModel" 605 y_Mo_asks ∈ lw_ok := lw_okmem (List.mem_of_getElem? (i := 3575) (by decide +kernel)) rfl
theorem q3578 : Cond.code y_Mo_asks b_Mo_asks 3 (none) ∈ lw_ok := lw_okmem (List.mem_of_getElem? (i := 3578) (by decide +kernel)) rfl
theorem q3577 : Cond.instanceMethod y_Mo_asks ∈ lw_ok := lw_okmem (List.mem_of_getElem? (i := 3577) (by decide +kernel)) rfl
theorem q197 : Cond.selects y_Mo_asks.cls y_Mo_asks y_Mo_asks ∈ lw_ok := lw_okmem (List.mem_of_getElem? (i := 197) (by decide +kernel)) rfl
theorem w9_Mo_asks : CWv y_Mo_asks b_Mo_asks 3 (none) 2 ∧ Cond.instanceMethod y_Mo_asks ∈ lw_ok ∧ Cond.selects y_Mo_asks.cls y_Mo_asks y_Mo_asks ∈ lw_ok := ⟨⟨q3578, q348, by decide +kernel, by decide +kernel, by decide +kernel⟩, q3577, q197⟩
theorem q3579 : Cond.methodLink "ClassWorksModel" 609 y_Mo_isOff ∈ lw_ok := lw_okmem (List.mem_of_getElem? (i := 3579) (by decide +kernel)) rfl
theorem q3582 : Cond.code y_Mo_isOff b_Mo_isOff 2 (some (.boolean)) ∈ lw_ok := lw_okmem (List.mem_of_getElem? (i := 3582) (by decide +kernel)) rfl
theorem q3581 : Cond.instanceMethod y_Mo_isOff ∈ lw_ok := lw_okmem (List.mem_of_getElem? (i := 3581) (by decide +kernel)) rfl
theorem q198 : Cond.selects y_Mo_isOff.cls y_Mo_isOff y_Mo_isOff ∈ lw_ok := lw_okmem (List.mem_of_getElem? (i := 198) (by decide +kernel)) rfl
theorem w9_Mo_isOff : CWv y_Mo_isOff b_Mo_isOff 2 (some (.boolean)) 1 ∧ Cond.instanceMethod y_Mo_isOff ∈ lw_ok ∧ Cond.selects y_Mo_isOff.cls y_Mo_isOff y_Mo_isOff ∈ lw_ok := ⟨⟨q3582, q348, by decide +kernel, by decide +kernel, by decide +kernel⟩, q3581, q198⟩
def y_Mo_classLine : MethodName := ⟨"ClassWorksModel", "classLine", "()V"⟩
abbrev b_Mo_classLine : ByteArray := prog_14_method_35_code
theorem q3121 : Cond.fieldLink "ClassWorksModel" 280 "ClassWorksModel" "faceRow" "[I" ∈ lw_ok := lw_okmem (List.mem_of_getElem? (i := 3121) (by decide +kernel)) rfl
theorem q3117 : Cond.fieldLink "ClassWorksModel" 615 "ClassWorksModel" "present" "I" ∈ lw_ok := lw_okmem (List.mem_of_getElem? (i := 3117) (by decide +kernel)) rfl
theorem q3116 : Cond.fieldLink "ClassWorksModel" 566 "ClassWorksModel" "mode" "I" ∈ lw_ok := lw_okmem (List.mem_of_getElem? (i := 3116) (by decide +kernel)) rfl
theorem q3074 : Cond.fieldLink "ClassWorksModel" 163 "ClassWorksModel" "kFinal" "I" ∈ lw_ok := lw_okmem (List.mem_of_getElem? (i := 3074) (by decide +kernel)) rfl
theorem q3075 : Cond.fieldLink "ClassWorksModel" 168 "ClassWorksModel" "kAbstract" "I" ∈ lw_ok := lw_okmem (List.mem_of_getElem? (i := 3075) (by decide +kernel)) rfl
theorem q3076 : Cond.fieldLink "ClassWorksModel" 173 "ClassWorksModel" "kFace" "I" ∈ lw_ok := lw_okmem (List.mem_of_getElem? (i := 3076) (by decide +kernel)) rfl
theorem d_Mo_classLine_0 : decode b_Mo_classLine 0 = .ok (.iconst 0, 1) := by decide +kernel
theorem d_Mo_classLine_1 : decode b_Mo_classLine 1 = .ok (.istore_n 1, 1) := by decide +kernel
theorem d_Mo_classLine_2 : decode b_Mo_classLine 2 = .ok (.iconst 1, 1) := by decide +kernel
theorem d_Mo_classLine_3 : decode b_Mo_classLine 3 = .ok (.istore_n 2, 1) := by decide +kernel
theorem d_Mo_classLine_4 : decode b_Mo_classLine 4 = .ok (.iload_n 2, 1) := by decide +kernel
theorem d_Mo_classLine_5 : decode b_Mo_classLine 5 = .ok (.ifCond .eq 99, 3) := by decide +kernel
theorem d_Mo_classLine_8 : decode b_Mo_classLine 8 = .ok (.aload_n 0, 1) := by decide +kernel
theorem d_Mo_classLine_9 : decode b_Mo_classLine 9 = .ok (.aload_n 0, 1) := by decide +kernel
theorem d_Mo_classLine_10 : decode b_Mo_classLine 10 = .ok (.getfield 163, 3) := by decide +kernel
theorem d_Mo_classLine_13 : decode b_Mo_classLine 13 = .ok (.invokevirtual 538, 3) := by decide +kernel
theorem d_Mo_classLine_16 : decode b_Mo_classLine 16 = .ok (.ifCond .eq 7, 3) := by decide +kernel
theorem d_Mo_classLine_19 : decode b_Mo_classLine 19 = .ok (.iconst 1, 1) := by decide +kernel
theorem d_Mo_classLine_20 : decode b_Mo_classLine 20 = .ok (.goto 34, 3) := by decide +kernel
theorem d_Mo_classLine_23 : decode b_Mo_classLine 23 = .ok (.aload_n 0, 1) := by decide +kernel
theorem d_Mo_classLine_24 : decode b_Mo_classLine 24 = .ok (.aload_n 0, 1) := by decide +kernel
theorem d_Mo_classLine_25 : decode b_Mo_classLine 25 = .ok (.getfield 168, 3) := by decide +kernel
theorem d_Mo_classLine_28 : decode b_Mo_classLine 28 = .ok (.invokevirtual 538, 3) := by decide +kernel
theorem d_Mo_classLine_31 : decode b_Mo_classLine 31 = .ok (.ifCond .eq 7, 3) := by decide +kernel
theorem d_Mo_classLine_34 : decode b_Mo_classLine 34 = .ok (.iconst 2, 1) := by decide +kernel
theorem d_Mo_classLine_35 : decode b_Mo_classLine 35 = .ok (.goto 19, 3) := by decide +kernel
theorem d_Mo_classLine_38 : decode b_Mo_classLine 38 = .ok (.aload_n 0, 1) := by decide +kernel
theorem d_Mo_classLine_39 : decode b_Mo_classLine 39 = .ok (.aload_n 0, 1) := by decide +kernel
theorem d_Mo_classLine_40 : decode b_Mo_classLine 40 = .ok (.getfield 173, 3) := by decide +kernel
theorem d_Mo_classLine_43 : decode b_Mo_classLine 43 = .ok (.invokevirtual 538, 3) := by decide +kernel
theorem d_Mo_classLine_46 : decode b_Mo_classLine 46 = .ok (.ifCond .eq 7, 3) := by decide +kernel
theorem d_Mo_classLine_49 : decode b_Mo_classLine 49 = .ok (.iconst 4, 1) := by decide +kernel
theorem d_Mo_classLine_50 : decode b_Mo_classLine 50 = .ok (.goto 4, 3) := by decide +kernel
theorem d_Mo_classLine_53 : decode b_Mo_classLine 53 = .ok (.iconst 0, 1) := by decide +kernel
theorem d_Mo_classLine_54 : decode b_Mo_classLine 54 = .ok (.istore_n 3, 1) := by decide +kernel
theorem d_Mo_classLine_55 : decode b_Mo_classLine 55 = .ok (.iload_n 3, 1) := by decide +kernel
theorem d_Mo_classLine_56 : decode b_Mo_classLine 56 = .ok (.ifCond .eq 13, 3) := by decide +kernel
theorem d_Mo_classLine_59 : decode b_Mo_classLine 59 = .ok (.iload_n 1, 1) := by decide +kernel
theorem d_Mo_classLine_60 : decode b_Mo_classLine 60 = .ok (.iload_n 3, 1) := by decide +kernel
theorem d_Mo_classLine_61 : decode b_Mo_classLine 61 = .ok (.iand, 1) := by decide +kernel
theorem d_Mo_classLine_62 : decode b_Mo_classLine 62 = .ok (.ifCond .ne 7, 3) := by decide +kernel
theorem d_Mo_classLine_65 : decode b_Mo_classLine 65 = .ok (.iconst 1, 1) := by decide +kernel
theorem d_Mo_classLine_66 : decode b_Mo_classLine 66 = .ok (.goto 4, 3) := by decide +kernel
theorem d_Mo_classLine_69 : decode b_Mo_classLine 69 = .ok (.iconst 0, 1) := by decide +kernel
theorem d_Mo_classLine_70 : decode b_Mo_classLine 70 = .ok (.istore_n 2, 1) := by decide +kernel
theorem d_Mo_classLine_71 : decode b_Mo_classLine 71 = .ok (.iload_n 1, 1) := by decide +kernel
theorem d_Mo_classLine_72 : decode b_Mo_classLine 72 = .ok (.iload_n 2, 1) := by decide +kernel
theorem d_Mo_classLine_73 : decode b_Mo_classLine 73 = .ok (.ifCond .eq 7, 3) := by decide +kernel
theorem d_Mo_classLine_76 : decode b_Mo_classLine 76 = .ok (.iload_n 3, 1) := by decide +kernel
theorem d_Mo_classLine_77 : decode b_Mo_classLine 77 = .ok (.goto 4, 3) := by decide +kernel
theorem d_Mo_classLine_80 : decode b_Mo_classLine 80 = .ok (.iconst 0, 1) := by decide +kernel
theorem d_Mo_classLine_81 : decode b_Mo_classLine 81 = .ok (.ior, 1) := by decide +kernel
theorem d_Mo_classLine_82 : decode b_Mo_classLine 82 = .ok (.istore_n 1, 1) := by decide +kernel
theorem d_Mo_classLine_83 : decode b_Mo_classLine 83 = .ok (.aload_n 0, 1) := by decide +kernel
theorem d_Mo_classLine_84 : decode b_Mo_classLine 84 = .ok (.dup, 1) := by decide +kernel
theorem d_Mo_classLine_85 : decode b_Mo_classLine 85 = .ok (.getfield 104, 3) := by decide +kernel
theorem d_Mo_classLine_88 : decode b_Mo_classLine 88 = .ok (.iload_n 2, 1) := by decide +kernel
theorem d_Mo_classLine_89 : decode b_Mo_classLine 89 = .ok (.ifCond .eq 7, 3) := by decide +kernel
theorem d_Mo_classLine_92 : decode b_Mo_classLine 92 = .ok (.iconst 1, 1) := by decide +kernel
theorem d_Mo_classLine_93 : decode b_Mo_classLine 93 = .ok (.goto 4, 3) := by decide +kernel
theorem d_Mo_classLine_96 : decode b_Mo_classLine 96 = .ok (.iconst 0, 1) := by decide +kernel
theorem d_Mo_classLine_97 : decode b_Mo_classLine 97 = .ok (.iadd, 1) := by decide +kernel
theorem d_Mo_classLine_98 : decode b_Mo_classLine 98 = .ok (.putfield 104, 3) := by decide +kernel
theorem d_Mo_classLine_101 : decode b_Mo_classLine 101 = .ok (.goto (-97), 3) := by decide +kernel
theorem d_Mo_classLine_104 : decode b_Mo_classLine 104 = .ok (.aload_n 0, 1) := by decide +kernel
theorem d_Mo_classLine_105 : decode b_Mo_classLine 105 = .ok (.aload_n 0, 1) := by decide +kernel
theorem d_Mo_classLine_106 : decode b_Mo_classLine 106 = .ok (.getfield 158, 3) := by decide +kernel
theorem d_Mo_classLine_109 : decode b_Mo_classLine 109 = .ok (.invokevirtual 592, 3) := by decide +kernel
theorem d_Mo_classLine_112 : decode b_Mo_classLine 112 = .ok (.aload_n 0, 1) := by decide +kernel
theorem d_Mo_classLine_113 : decode b_Mo_classLine 113 = .ok (.invokevirtual 554, 3) := by decide +kernel
theorem d_Mo_classLine_116 : decode b_Mo_classLine 116 = .ok (.istore_n 3, 1) := by decide +kernel
theorem d_Mo_classLine_117 : decode b_Mo_classLine 117 = .ok (.aload_n 0, 1) := by decide +kernel
theorem d_Mo_classLine_118 : decode b_Mo_classLine 118 = .ok (.bipush 58, 2) := by decide +kernel
theorem d_Mo_classLine_120 : decode b_Mo_classLine 120 = .ok (.invokevirtual 544, 3) := by decide +kernel
theorem d_Mo_classLine_123 : decode b_Mo_classLine 123 = .ok (.aload_n 0, 1) := by decide +kernel
theorem d_Mo_classLine_124 : decode b_Mo_classLine 124 = .ok (.invokevirtual 554, 3) := by decide +kernel
theorem d_Mo_classLine_127 : decode b_Mo_classLine 127 = .ok (.istore 4, 2) := by decide +kernel
theorem d_Mo_classLine_129 : decode b_Mo_classLine 129 = .ok (.aload_n 0, 1) := by decide +kernel
theorem d_Mo_classLine_130 : decode b_Mo_classLine 130 = .ok (.iconst 2, 1) := by decide +kernel
theorem d_Mo_classLine_131 : decode b_Mo_classLine 131 = .ok (.aload_n 0, 1) := by decide +kernel
theorem d_Mo_classLine_132 : decode b_Mo_classLine 132 = .ok (.iload_n 3, 1) := by decide +kernel
theorem d_Mo_classLine_133 : decode b_Mo_classLine 133 = .ok (.invokevirtual 601, 3) := by decide +kernel
theorem d_Mo_classLine_136 : decode b_Mo_classLine 136 = .ok (.ifCond .lt 7, 3) := by decide +kernel
theorem d_Mo_classLine_139 : decode b_Mo_classLine 139 = .ok (.iconst 1, 1) := by decide +kernel
theorem d_Mo_classLine_140 : decode b_Mo_classLine 140 = .ok (.goto 4, 3) := by decide +kernel
theorem d_Mo_classLine_143 : decode b_Mo_classLine 143 = .ok (.iconst 0, 1) := by decide +kernel
theorem d_Mo_classLine_144 : decode b_Mo_classLine 144 = .ok (.invokevirtual 605, 3) := by decide +kernel
theorem d_Mo_classLine_147 : decode b_Mo_classLine 147 = .ok (.aload_n 0, 1) := by decide +kernel
theorem d_Mo_classLine_148 : decode b_Mo_classLine 148 = .ok (.iconst 4, 1) := by decide +kernel
theorem d_Mo_classLine_149 : decode b_Mo_classLine 149 = .ok (.aload_n 0, 1) := by decide +kernel
theorem d_Mo_classLine_150 : decode b_Mo_classLine 150 = .ok (.iconst 0, 1) := by decide +kernel
theorem d_Mo_classLine_151 : decode b_Mo_classLine 151 = .ok (.invokevirtual 609, 3) := by decide +kernel
theorem d_Mo_classLine_154 : decode b_Mo_classLine 154 = .ok (.ifCond .ne 39, 3) := by decide +kernel
theorem d_Mo_classLine_157 : decode b_Mo_classLine 157 = .ok (.iload_n 1, 1) := by decide +kernel
theorem d_Mo_classLine_158 : decode b_Mo_classLine 158 = .ok (.iconst 1, 1) := by decide +kernel
theorem d_Mo_classLine_159 : decode b_Mo_classLine 159 = .ok (.iand, 1) := by decide +kernel
theorem d_Mo_classLine_160 : decode b_Mo_classLine 160 = .ok (.ifCond .eq 8, 3) := by decide +kernel
theorem d_Mo_classLine_163 : decode b_Mo_classLine 163 = .ok (.iload_n 1, 1) := by decide +kernel
theorem d_Mo_classLine_164 : decode b_Mo_classLine 164 = .ok (.iconst 1, 1) := by decide +kernel
theorem d_Mo_classLine_165 : decode b_Mo_classLine 165 = .ok (.if_icmp .ne 24, 3) := by decide +kernel
theorem d_Mo_classLine_168 : decode b_Mo_classLine 168 = .ok (.iload_n 1, 1) := by decide +kernel
theorem d_Mo_classLine_169 : decode b_Mo_classLine 169 = .ok (.bipush 6, 2) := by decide +kernel
theorem d_Mo_classLine_171 : decode b_Mo_classLine 171 = .ok (.if_icmp .eq 18, 3) := by decide +kernel
theorem d_Mo_classLine_174 : decode b_Mo_classLine 174 = .ok (.iload_n 1, 1) := by decide +kernel
theorem d_Mo_classLine_175 : decode b_Mo_classLine 175 = .ok (.iconst 4, 1) := by decide +kernel
theorem d_Mo_classLine_176 : decode b_Mo_classLine 176 = .ok (.iand, 1) := by decide +kernel
theorem d_Mo_classLine_177 : decode b_Mo_classLine 177 = .ok (.ifCond .eq 16, 3) := by decide +kernel
theorem d_Mo_classLine_180 : decode b_Mo_classLine 180 = .ok (.iload 4, 2) := by decide +kernel
theorem d_Mo_classLine_182 : decode b_Mo_classLine 182 = .ok (.aload_n 0, 1) := by decide +kernel
theorem d_Mo_classLine_183 : decode b_Mo_classLine 183 = .ok (.getfield 153, 3) := by decide +kernel
theorem d_Mo_classLine_186 : decode b_Mo_classLine 186 = .ok (.if_icmp .eq 7, 3) := by decide +kernel
theorem d_Mo_classLine_189 : decode b_Mo_classLine 189 = .ok (.iconst 1, 1) := by decide +kernel
theorem d_Mo_classLine_190 : decode b_Mo_classLine 190 = .ok (.goto 4, 3) := by decide +kernel
theorem d_Mo_classLine_193 : decode b_Mo_classLine 193 = .ok (.iconst 0, 1) := by decide +kernel
theorem d_Mo_classLine_194 : decode b_Mo_classLine 194 = .ok (.invokevirtual 605, 3) := by decide +kernel
theorem d_Mo_classLine_197 : decode b_Mo_classLine 197 = .ok (.aload_n 0, 1) := by decide +kernel
theorem d_Mo_classLine_198 : decode b_Mo_classLine 198 = .ok (.bipush 11, 2) := by decide +kernel
theorem d_Mo_classLine_200 : decode b_Mo_classLine 200 = .ok (.iload 4, 2) := by decide +kernel
theorem d_Mo_classLine_202 : decode b_Mo_classLine 202 = .ok (.iload_n 3, 1) := by decide +kernel
theorem d_Mo_classLine_203 : decode b_Mo_classLine 203 = .ok (.if_icmp .ne 7, 3) := by decide +kernel
theorem d_Mo_classLine_206 : decode b_Mo_classLine 206 = .ok (.iconst 1, 1) := by decide +kernel
theorem d_Mo_classLine_207 : decode b_Mo_classLine 207 = .ok (.goto 4, 3) := by decide +kernel
theorem d_Mo_classLine_210 : decode b_Mo_classLine 210 = .ok (.iconst 0, 1) := by decide +kernel
theorem d_Mo_classLine_211 : decode b_Mo_classLine 211 = .ok (.invokevirtual 605, 3) := by decide +kernel
theorem d_Mo_classLine_214 : decode b_Mo_classLine 214 = .ok (.aload_n 0, 1) := by decide +kernel
theorem d_Mo_classLine_215 : decode b_Mo_classLine 215 = .ok (.bipush 12, 2) := by decide +kernel
theorem d_Mo_classLine_217 : decode b_Mo_classLine 217 = .ok (.aload_n 0, 1) := by decide +kernel
theorem d_Mo_classLine_218 : decode b_Mo_classLine 218 = .ok (.getfield 522, 3) := by decide +kernel
theorem d_Mo_classLine_221 : decode b_Mo_classLine 221 = .ok (.getfield 420, 3) := by decide +kernel
theorem d_Mo_classLine_224 : decode b_Mo_classLine 224 = .ok (.bipush 51, 2) := by decide +kernel
theorem d_Mo_classLine_226 : decode b_Mo_classLine 226 = .ok (.if_icmp .ne 7, 3) := by decide +kernel
theorem d_Mo_classLine_229 : decode b_Mo_classLine 229 = .ok (.iconst 1, 1) := by decide +kernel
theorem d_Mo_classLine_230 : decode b_Mo_classLine 230 = .ok (.goto 4, 3) := by decide +kernel
theorem d_Mo_classLine_233 : decode b_Mo_classLine 233 = .ok (.iconst 0, 1) := by decide +kernel
theorem d_Mo_classLine_234 : decode b_Mo_classLine 234 = .ok (.invokevirtual 605, 3) := by decide +kernel
theorem d_Mo_classLine_237 : decode b_Mo_classLine 237 = .ok (.iconst 0, 1) := by decide +kernel
theorem d_Mo_classLine_238 : decode b_Mo_classLine 238 = .ok (.istore 5, 2) := by decide +kernel
theorem d_Mo_classLine_240 : decode b_Mo_classLine 240 = .ok (.aload_n 0, 1) := by decide +kernel
theorem d_Mo_classLine_241 : decode b_Mo_classLine 241 = .ok (.getfield 92, 3) := by decide +kernel
theorem d_Mo_classLine_244 : decode b_Mo_classLine 244 = .ok (.aload_n 0, 1) := by decide +kernel
theorem d_Mo_classLine_245 : decode b_Mo_classLine 245 = .ok (.getfield 104, 3) := by decide +kernel
theorem d_Mo_classLine_248 : decode b_Mo_classLine 248 = .ok (.baload, 1) := by decide +kernel
theorem d_Mo_classLine_249 : decode b_Mo_classLine 249 = .ok (.bipush 44, 2) := by decide +kernel
theorem d_Mo_classLine_251 : decode b_Mo_classLine 251 = .ok (.if_icmp .ne 112, 3) := by decide +kernel
theorem d_Mo_classLine_254 : decode b_Mo_classLine 254 = .ok (.aload_n 0, 1) := by decide +kernel
theorem d_Mo_classLine_255 : decode b_Mo_classLine 255 = .ok (.dup, 1) := by decide +kernel
theorem d_Mo_classLine_256 : decode b_Mo_classLine 256 = .ok (.getfield 104, 3) := by decide +kernel
theorem d_Mo_classLine_259 : decode b_Mo_classLine 259 = .ok (.iconst 1, 1) := by decide +kernel
theorem d_Mo_classLine_260 : decode b_Mo_classLine 260 = .ok (.iadd, 1) := by decide +kernel
theorem d_Mo_classLine_261 : decode b_Mo_classLine 261 = .ok (.putfield 104, 3) := by decide +kernel
theorem d_Mo_classLine_264 : decode b_Mo_classLine 264 = .ok (.aload_n 0, 1) := by decide +kernel
theorem d_Mo_classLine_265 : decode b_Mo_classLine 265 = .ok (.invokevirtual 554, 3) := by decide +kernel
theorem d_Mo_classLine_268 : decode b_Mo_classLine 268 = .ok (.istore 6, 2) := by decide +kernel
theorem d_Mo_classLine_270 : decode b_Mo_classLine 270 = .ok (.aload_n 0, 1) := by decide +kernel
theorem d_Mo_classLine_271 : decode b_Mo_classLine 271 = .ok (.bipush 11, 2) := by decide +kernel
theorem d_Mo_classLine_273 : decode b_Mo_classLine 273 = .ok (.iload 6, 2) := by decide +kernel
theorem d_Mo_classLine_275 : decode b_Mo_classLine 275 = .ok (.iload_n 3, 1) := by decide +kernel
theorem d_Mo_classLine_276 : decode b_Mo_classLine 276 = .ok (.if_icmp .eq 10, 3) := by decide +kernel
theorem d_Mo_classLine_279 : decode b_Mo_classLine 279 = .ok (.iload 6, 2) := by decide +kernel
theorem d_Mo_classLine_281 : decode b_Mo_classLine 281 = .ok (.iload 4, 2) := by decide +kernel
theorem d_Mo_classLine_283 : decode b_Mo_classLine 283 = .ok (.if_icmp .ne 7, 3) := by decide +kernel
theorem d_Mo_classLine_286 : decode b_Mo_classLine 286 = .ok (.iconst 1, 1) := by decide +kernel
theorem d_Mo_classLine_287 : decode b_Mo_classLine 287 = .ok (.goto 4, 3) := by decide +kernel
theorem d_Mo_classLine_290 : decode b_Mo_classLine 290 = .ok (.iconst 0, 1) := by decide +kernel
theorem d_Mo_classLine_291 : decode b_Mo_classLine 291 = .ok (.invokevirtual 605, 3) := by decide +kernel
theorem d_Mo_classLine_294 : decode b_Mo_classLine 294 = .ok (.iconst 0, 1) := by decide +kernel
theorem d_Mo_classLine_295 : decode b_Mo_classLine 295 = .ok (.istore 7, 2) := by decide +kernel
theorem d_Mo_classLine_297 : decode b_Mo_classLine 297 = .ok (.iload 7, 2) := by decide +kernel
theorem d_Mo_classLine_299 : decode b_Mo_classLine 299 = .ok (.iload 5, 2) := by decide +kernel
theorem d_Mo_classLine_301 : decode b_Mo_classLine 301 = .ok (.if_icmp .ge 32, 3) := by decide +kernel
theorem d_Mo_classLine_304 : decode b_Mo_classLine 304 = .ok (.aload_n 0, 1) := by decide +kernel
theorem d_Mo_classLine_305 : decode b_Mo_classLine 305 = .ok (.bipush 11, 2) := by decide +kernel
theorem d_Mo_classLine_307 : decode b_Mo_classLine 307 = .ok (.aload_n 0, 1) := by decide +kernel
theorem d_Mo_classLine_308 : decode b_Mo_classLine 308 = .ok (.getfield 280, 3) := by decide +kernel
theorem d_Mo_classLine_311 : decode b_Mo_classLine 311 = .ok (.iload 7, 2) := by decide +kernel
theorem d_Mo_classLine_313 : decode b_Mo_classLine 313 = .ok (.iaload, 1) := by decide +kernel
theorem d_Mo_classLine_314 : decode b_Mo_classLine 314 = .ok (.iload 6, 2) := by decide +kernel
theorem d_Mo_classLine_316 : decode b_Mo_classLine 316 = .ok (.if_icmp .ne 7, 3) := by decide +kernel
theorem d_Mo_classLine_319 : decode b_Mo_classLine 319 = .ok (.iconst 1, 1) := by decide +kernel
theorem d_Mo_classLine_320 : decode b_Mo_classLine 320 = .ok (.goto 4, 3) := by decide +kernel
theorem d_Mo_classLine_323 : decode b_Mo_classLine 323 = .ok (.iconst 0, 1) := by decide +kernel
theorem d_Mo_classLine_324 : decode b_Mo_classLine 324 = .ok (.invokevirtual 605, 3) := by decide +kernel
theorem d_Mo_classLine_327 : decode b_Mo_classLine 327 = .ok (.iinc 7 1, 3) := by decide +kernel
theorem d_Mo_classLine_330 : decode b_Mo_classLine 330 = .ok (.goto (-33), 3) := by decide +kernel
theorem d_Mo_classLine_333 : decode b_Mo_classLine 333 = .ok (.aload_n 0, 1) := by decide +kernel
theorem d_Mo_classLine_334 : decode b_Mo_classLine 334 = .ok (.aload_n 0, 1) := by decide +kernel
theorem d_Mo_classLine_335 : decode b_Mo_classLine 335 = .ok (.getfield 280, 3) := by decide +kernel
theorem d_Mo_classLine_338 : decode b_Mo_classLine 338 = .ok (.iload 5, 2) := by decide +kernel
theorem d_Mo_classLine_340 : decode b_Mo_classLine 340 = .ok (.iconst 1, 1) := by decide +kernel
theorem d_Mo_classLine_341 : decode b_Mo_classLine 341 = .ok (.iadd, 1) := by decide +kernel
theorem d_Mo_classLine_342 : decode b_Mo_classLine 342 = .ok (.invokestatic 43, 3) := by decide +kernel
theorem d_Mo_classLine_345 : decode b_Mo_classLine 345 = .ok (.putfield 280, 3) := by decide +kernel
theorem d_Mo_classLine_348 : decode b_Mo_classLine 348 = .ok (.aload_n 0, 1) := by decide +kernel
theorem d_Mo_classLine_349 : decode b_Mo_classLine 349 = .ok (.getfield 280, 3) := by decide +kernel
theorem d_Mo_classLine_352 : decode b_Mo_classLine 352 = .ok (.iload 5, 2) := by decide +kernel
theorem d_Mo_classLine_354 : decode b_Mo_classLine 354 = .ok (.iload 6, 2) := by decide +kernel
theorem d_Mo_classLine_356 : decode b_Mo_classLine 356 = .ok (.iastore, 1) := by decide +kernel
theorem d_Mo_classLine_357 : decode b_Mo_classLine 357 = .ok (.iinc 5 1, 3) := by decide +kernel
theorem d_Mo_classLine_360 : decode b_Mo_classLine 360 = .ok (.goto (-120), 3) := by decide +kernel
theorem d_Mo_classLine_363 : decode b_Mo_classLine 363 = .ok (.aload_n 0, 1) := by decide +kernel
theorem d_Mo_classLine_364 : decode b_Mo_classLine 364 = .ok (.bipush 12, 2) := by decide +kernel
theorem d_Mo_classLine_366 : decode b_Mo_classLine 366 = .ok (.iload 5, 2) := by decide +kernel
theorem d_Mo_classLine_368 : decode b_Mo_classLine 368 = .ok (.iconst 4, 1) := by decide +kernel
theorem d_Mo_classLine_369 : decode b_Mo_classLine 369 = .ok (.if_icmp .le 7, 3) := by decide +kernel
theorem d_Mo_classLine_372 : decode b_Mo_classLine 372 = .ok (.iconst 1, 1) := by decide +kernel
theorem d_Mo_classLine_373 : decode b_Mo_classLine 373 = .ok (.goto 4, 3) := by decide +kernel
theorem d_Mo_classLine_376 : decode b_Mo_classLine 376 = .ok (.iconst 0, 1) := by decide +kernel
theorem d_Mo_classLine_377 : decode b_Mo_classLine 377 = .ok (.invokevirtual 605, 3) := by decide +kernel
theorem d_Mo_classLine_380 : decode b_Mo_classLine 380 = .ok (.aload_n 0, 1) := by decide +kernel
theorem d_Mo_classLine_381 : decode b_Mo_classLine 381 = .ok (.iconst 0, 1) := by decide +kernel
theorem d_Mo_classLine_382 : decode b_Mo_classLine 382 = .ok (.invokevirtual 544, 3) := by decide +kernel
theorem d_Mo_classLine_385 : decode b_Mo_classLine 385 = .ok (.aload_n 0, 1) := by decide +kernel
theorem d_Mo_classLine_386 : decode b_Mo_classLine 386 = .ok (.getfield 532, 3) := by decide +kernel
theorem d_Mo_classLine_389 : decode b_Mo_classLine 389 = .ok (.bipush 99, 2) := by decide +kernel
theorem d_Mo_classLine_391 : decode b_Mo_classLine 391 = .ok (.if_icmp .ge 4, 3) := by decide +kernel
theorem d_Mo_classLine_394 : decode b_Mo_classLine 394 = .ok (.return_, 1) := by decide +kernel
theorem d_Mo_classLine_395 : decode b_Mo_classLine 395 = .ok (.aload_n 0, 1) := by decide +kernel
theorem d_Mo_classLine_396 : decode b_Mo_classLine 396 = .ok (.getfield 522, 3) := by decide +kernel
theorem d_Mo_classLine_399 : decode b_Mo_classLine 399 = .ok (.getfield 420, 3) := by decide +kernel
theorem d_Mo_classLine_402 : decode b_Mo_classLine 402 = .ok (.istore 6, 2) := by decide +kernel
theorem d_Mo_classLine_404 : decode b_Mo_classLine 404 = .ok (.aload_n 0, 1) := by decide +kernel
theorem d_Mo_classLine_405 : decode b_Mo_classLine 405 = .ok (.getfield 280, 3) := by decide +kernel
theorem d_Mo_classLine_408 : decode b_Mo_classLine 408 = .ok (.iconst 0, 1) := by decide +kernel
theorem d_Mo_classLine_409 : decode b_Mo_classLine 409 = .ok (.aload_n 0, 1) := by decide +kernel
theorem d_Mo_classLine_410 : decode b_Mo_classLine 410 = .ok (.getfield 522, 3) := by decide +kernel
theorem d_Mo_classLine_413 : decode b_Mo_classLine 413 = .ok (.getfield 612, 3) := by decide +kernel
theorem d_Mo_classLine_416 : decode b_Mo_classLine 416 = .ok (.iconst 4, 1) := by decide +kernel
theorem d_Mo_classLine_417 : decode b_Mo_classLine 417 = .ok (.iload 6, 2) := by decide +kernel
theorem d_Mo_classLine_419 : decode b_Mo_classLine 419 = .ok (.imul, 1) := by decide +kernel
theorem d_Mo_classLine_420 : decode b_Mo_classLine 420 = .ok (.iload 5, 2) := by decide +kernel
theorem d_Mo_classLine_422 : decode b_Mo_classLine 422 = .ok (.invokestatic 11, 3) := by decide +kernel
theorem d_Mo_classLine_425 : decode b_Mo_classLine 425 = .ok (.aload_n 0, 1) := by decide +kernel
theorem d_Mo_classLine_426 : decode b_Mo_classLine 426 = .ok (.getfield 522, 3) := by decide +kernel
theorem d_Mo_classLine_429 : decode b_Mo_classLine 429 = .ok (.getfield 423, 3) := by decide +kernel
theorem d_Mo_classLine_432 : decode b_Mo_classLine 432 = .ok (.iload 6, 2) := by decide +kernel
theorem d_Mo_classLine_434 : decode b_Mo_classLine 434 = .ok (.iload_n 3, 1) := by decide +kernel
theorem d_Mo_classLine_435 : decode b_Mo_classLine 435 = .ok (.iastore, 1) := by decide +kernel
theorem d_Mo_classLine_436 : decode b_Mo_classLine 436 = .ok (.aload_n 0, 1) := by decide +kernel
theorem d_Mo_classLine_437 : decode b_Mo_classLine 437 = .ok (.getfield 522, 3) := by decide +kernel
theorem d_Mo_classLine_440 : decode b_Mo_classLine 440 = .ok (.getfield 426, 3) := by decide +kernel
theorem d_Mo_classLine_443 : decode b_Mo_classLine 443 = .ok (.iload 6, 2) := by decide +kernel
theorem d_Mo_classLine_445 : decode b_Mo_classLine 445 = .ok (.iload 4, 2) := by decide +kernel
theorem d_Mo_classLine_447 : decode b_Mo_classLine 447 = .ok (.iastore, 1) := by decide +kernel
theorem d_Mo_classLine_448 : decode b_Mo_classLine 448 = .ok (.aload_n 0, 1) := by decide +kernel
theorem d_Mo_classLine_449 : decode b_Mo_classLine 449 = .ok (.getfield 522, 3) := by decide +kernel
theorem d_Mo_classLine_452 : decode b_Mo_classLine 452 = .ok (.getfield 429, 3) := by decide +kernel
theorem d_Mo_classLine_455 : decode b_Mo_classLine 455 = .ok (.iload 6, 2) := by decide +kernel
theorem d_Mo_classLine_457 : decode b_Mo_classLine 457 = .ok (.iload_n 1, 1) := by decide +kernel
theorem d_Mo_classLine_458 : decode b_Mo_classLine 458 = .ok (.iastore, 1) := by decide +kernel
theorem d_Mo_classLine_459 : decode b_Mo_classLine 459 = .ok (.aload_n 0, 1) := by decide +kernel
theorem d_Mo_classLine_460 : decode b_Mo_classLine 460 = .ok (.getfield 522, 3) := by decide +kernel
theorem d_Mo_classLine_463 : decode b_Mo_classLine 463 = .ok (.getfield 432, 3) := by decide +kernel
theorem d_Mo_classLine_466 : decode b_Mo_classLine 466 = .ok (.iload 6, 2) := by decide +kernel
theorem d_Mo_classLine_468 : decode b_Mo_classLine 468 = .ok (.iload 5, 2) := by decide +kernel
theorem d_Mo_classLine_470 : decode b_Mo_classLine 470 = .ok (.iastore, 1) := by decide +kernel
theorem d_Mo_classLine_471 : decode b_Mo_classLine 471 = .ok (.aload_n 0, 1) := by decide +kernel
theorem d_Mo_classLine_472 : decode b_Mo_classLine 472 = .ok (.getfield 522, 3) := by decide +kernel
theorem d_Mo_classLine_475 : decode b_Mo_classLine 475 = .ok (.getfield 435, 3) := by decide +kernel
theorem d_Mo_classLine_478 : decode b_Mo_classLine 478 = .ok (.iload 6, 2) := by decide +kernel
theorem d_Mo_classLine_480 : decode b_Mo_classLine 480 = .ok (.iconst 0, 1) := by decide +kernel
theorem d_Mo_classLine_481 : decode b_Mo_classLine 481 = .ok (.iastore, 1) := by decide +kernel
theorem d_Mo_classLine_482 : decode b_Mo_classLine 482 = .ok (.aload_n 0, 1) := by decide +kernel
theorem d_Mo_classLine_483 : decode b_Mo_classLine 483 = .ok (.getfield 522, 3) := by decide +kernel
theorem d_Mo_classLine_486 : decode b_Mo_classLine 486 = .ok (.getfield 438, 3) := by decide +kernel
theorem d_Mo_classLine_489 : decode b_Mo_classLine 489 = .ok (.iload 6, 2) := by decide +kernel
theorem d_Mo_classLine_491 : decode b_Mo_classLine 491 = .ok (.iconst 0, 1) := by decide +kernel
theorem d_Mo_classLine_492 : decode b_Mo_classLine 492 = .ok (.iastore, 1) := by decide +kernel
theorem d_Mo_classLine_493 : decode b_Mo_classLine 493 = .ok (.aload_n 0, 1) := by decide +kernel
theorem d_Mo_classLine_494 : decode b_Mo_classLine 494 = .ok (.getfield 522, 3) := by decide +kernel
theorem d_Mo_classLine_497 : decode b_Mo_classLine 497 = .ok (.getfield 441, 3) := by decide +kernel
theorem d_Mo_classLine_500 : decode b_Mo_classLine 500 = .ok (.iload 6, 2) := by decide +kernel
theorem d_Mo_classLine_502 : decode b_Mo_classLine 502 = .ok (.iconst 0, 1) := by decide +kernel
theorem d_Mo_classLine_503 : decode b_Mo_classLine 503 = .ok (.iastore, 1) := by decide +kernel
theorem d_Mo_classLine_504 : decode b_Mo_classLine 504 = .ok (.aload_n 0, 1) := by decide +kernel
theorem d_Mo_classLine_505 : decode b_Mo_classLine 505 = .ok (.getfield 522, 3) := by decide +kernel
theorem d_Mo_classLine_508 : decode b_Mo_classLine 508 = .ok (.getfield 444, 3) := by decide +kernel
theorem d_Mo_classLine_511 : decode b_Mo_classLine 511 = .ok (.iload 6, 2) := by decide +kernel
theorem d_Mo_classLine_513 : decode b_Mo_classLine 513 = .ok (.iconst 0, 1) := by decide +kernel
theorem d_Mo_classLine_514 : decode b_Mo_classLine 514 = .ok (.iastore, 1) := by decide +kernel
theorem d_Mo_classLine_515 : decode b_Mo_classLine 515 = .ok (.aload_n 0, 1) := by decide +kernel
theorem d_Mo_classLine_516 : decode b_Mo_classLine 516 = .ok (.getfield 522, 3) := by decide +kernel
theorem d_Mo_classLine_519 : decode b_Mo_classLine 519 = .ok (.dup, 1) := by decide +kernel
theorem d_Mo_classLine_520 : decode b_Mo_classLine 520 = .ok (.getfield 420, 3) := by decide +kernel
theorem d_Mo_classLine_523 : decode b_Mo_classLine 523 = .ok (.iconst 1, 1) := by decide +kernel
theorem d_Mo_classLine_524 : decode b_Mo_classLine 524 = .ok (.iadd, 1) := by decide +kernel
theorem d_Mo_classLine_525 : decode b_Mo_classLine 525 = .ok (.putfield 420, 3) := by decide +kernel
theorem d_Mo_classLine_528 : decode b_Mo_classLine 528 = .ok (.aload_n 0, 1) := by decide +kernel
theorem d_Mo_classLine_529 : decode b_Mo_classLine 529 = .ok (.iload 6, 2) := by decide +kernel
theorem d_Mo_classLine_531 : decode b_Mo_classLine 531 = .ok (.putfield 615, 3) := by decide +kernel
theorem d_Mo_classLine_534 : decode b_Mo_classLine 534 = .ok (.aload_n 0, 1) := by decide +kernel
theorem d_Mo_classLine_535 : decode b_Mo_classLine 535 = .ok (.iconst 1, 1) := by decide +kernel
theorem d_Mo_classLine_536 : decode b_Mo_classLine 536 = .ok (.putfield 566, 3) := by decide +kernel
theorem d_Mo_classLine_539 : decode b_Mo_classLine 539 = .ok (.return_, 1) := by decide +kernel
abbrev ra_Mo_classLine (mc ms : Nat) : Room := { frames := 4, cells := mc, slots := ms, locals := 150 }
def wja_Mo_classLine_377 (mc ms : Nat) (Post : Ly → St → Nat → Nat → Prop) (PX : Ly → St → Nat → Nat → Prop) (a0 : Nat) (y_j377 : Ly) (s_j377 : St) (d_j377 e_j377 : Nat) (x1j377 : Int32) (x3j377 : Int32) (x4j377 : Int32) (x5j377 : Int32) (z1j377 : Int32) (z2j377 : Int32) : Prop := (d_j377 ≤ mc ∧ e_j377 ≤ ms) ∧ wu_Mo_asks y_j377 (fun (s_50 : St) => ∃ mc_56 ms_57 : Nat, (d_j377 + mc_56 ≤ mc ∧ e_j377 + ms_57 ≤ ms) ∧ wx_Mo_need mc_56 ms_57 y_j377 (fun (y_53 : Ly) (s_52 : St) (d_54 e_55 : Nat) => (d_j377 + d_54 ≤ mc ∧ e_j377 + e_55 ≤ ms) ∧ ((99 ≤ (sV s_52 a0 51) → ∃ b_59 : Nat, sO s_52 a0 45 = some b_59 ∧ cl b_59 = 13 ∧ xC y_53 s_52 a0 57 b_59 6 .int 0 (4 * (sV s_52 b_59 2)) x5j377 (fun s_62 : St => ∃ b_63 : Nat, sO s_62 a0 45 = some b_63 ∧ cl b_63 = 13 ∧ xS y_53 s_62 b_63 3 (sV s_52 b_59 2) x3j377 (fun s_66 : St => ∃ b_67 : Nat, sO s_66 a0 45 = some b_67 ∧ cl b_67 = 13 ∧ xS y_53 s_66 b_67 4 (sV s_52 b_59 2) x4j377 (fun s_70 : St => ∃ b_71 : Nat, sO s_70 a0 45 = some b_71 ∧ cl b_71 = 13 ∧ xS y_53 s_70 b_71 5 (sV s_52 b_59 2) x1j377 (fun s_74 : St => ∃ b_75 : Nat, sO s_74 a0 45 = some b_75 ∧ cl b_75 = 13 ∧ xS y_53 s_74 b_75 7 (sV s_52 b_59 2) x5j377 (fun s_78 : St => ∃ b_79 : Nat, sO s_78 a0 45 = some b_79 ∧ cl b_79 = 13 ∧ xS y_53 s_78 b_79 8 (sV s_52 b_59 2) 0 (fun s_82 : St => ∃ b_83 : Nat, sO s_82 a0 45 = some b_83 ∧ cl b_83 = 13 ∧ xS y_53 s_82 b_83 9 (sV s_52 b_59 2) 0 (fun s_86 : St => ∃ b_87 : Nat, sO s_86 a0 45 = some b_87 ∧ cl b_87 = 13 ∧ xS y_53 s_86 b_87 10 (sV s_52 b_59 2) 0 (fun s_90 : St => ∃ b_91 : Nat, sO s_90 a0 45 = some b_91 ∧ cl b_91 = 13 ∧ xS y_53 s_90 b_91 11 (sV s_52 b_59 2) 0 (fun s_94 : St => ∃ b_95 : Nat, sO s_94 a0 45 = some b_95 ∧ cl b_95 = 13 ∧ xP (uV s_94 b_95 2 ((sV s_94 b_95 2) + 1)) (fun s_98 : St => xP (uV s_98 a0 53 (sV s_52 b_59 2)) (fun s_99 : St => xP (uV s_99 a0 52 1) (fun s_100 : St => Post y_53 s_100 (d_j377 + d_54) (e_j377 + e_55)))))))))))))) ∧ (¬ (99 ≤ (sV s_52 a0 51)) → Post y_53 s_52 (d_j377 + d_54) (e_j377 + e_55)))) (fun (y_53 : Ly) (s_52 : St) (d_54 e_55 : Nat) => ((d_j377 + d_54 ≤ mc ∧ e_j377 + e_55 ≤ ms) ∧ PX y_53 s_52 (d_j377 + d_54) (e_j377 + e_55))) s_50 a0 0) s_j377 a0 z1j377 z2j377
def wja_Mo_classLine_324 (mc ms : Nat) (Post : Ly → St → Nat → Nat → Prop) (PX : Ly → St → Nat → Nat → Prop) (K_240 : Ly → St → Nat → Nat → Int32 → Int32 → Int32 → Int32 → Prop) (K_297 : Ly → St → Nat → Nat → Int32 → Int32 → Int32 → Int32 → Int32 → Int32 → Prop) (a0 : Nat) (y_j324 : Ly) (s_j324 : St) (d_j324 e_j324 : Nat) (x1j324 : Int32) (x3j324 : Int32) (x4j324 : Int32) (x5j324 : Int32) (x6j324 : Int32) (x7j324 : Int32) (z1j324 : Int32) (z2j324 : Int32) : Prop := (d_j324 ≤ mc ∧ e_j324 ≤ ms) ∧ wu_Mo_asks y_j324 (fun (s_119 : St) => K_297 y_j324 s_119 d_j324 e_j324 x1j324 x3j324 x4j324 x5j324 x6j324 (x7j324 + 1)) s_j324 a0 z1j324 z2j324
def wba_Mo_classLine_297 (mc ms : Nat) (Post : Ly → St → Nat → Nat → Prop) (PX : Ly → St → Nat → Nat → Prop) (K_240 : Ly → St → Nat → Nat → Int32 → Int32 → Int32 → Int32 → Prop) (K_297 : Ly → St → Nat → Nat → Int32 → Int32 → Int32 → Int32 → Int32 → Int32 → Prop) (a0 : Nat) (y_h297 : Ly) (s_h297 : St) (d_h297 e_h297 : Nat) (x1h297 : Int32) (x3h297 : Int32) (x4h297 : Int32) (x5h297 : Int32) (x6h297 : Int32) (x7h297 : Int32) : Prop := (d_h297 ≤ mc ∧ e_h297 ≤ ms) ∧ ((x5h297 ≤ x7h297 → xR mc ms d_h297 e_h297 .int y_h297 s_h297 a0 57 (x5h297 + 1) (fun (y_112 : Ly) (s_113 : St) (d_114 e_115 : Nat) => (d_114 ≤ mc ∧ e_115 ≤ ms) ∧ xS y_112 s_113 a0 57 x5h297 x6h297 (fun s_116 : St => K_240 y_112 s_116 d_114 e_115 x1h297 x3h297 x4h297 (x5h297 + 1)))) ∧ (¬ (x5h297 ≤ x7h297) → xA y_h297 s_h297 a0 57 x7h297 (fun x_117 : Int32 => ((¬ x_117 = x6h297 → wja_Mo_classLine_324 mc ms Post PX K_240 K_297 a0 y_h297 s_h297 d_h297 e_h297 x1h297 x3h297 x4h297 x5h297 x6h297 x7h297 11 0) ∧ (x_117 = x6h297 → wja_Mo_classLine_324 mc ms Post PX K_240 K_297 a0 y_h297 s_h297 d_h297 e_h297 x1h297 x3h297 x4h297 x5h297 x6h297 x7h297 11 1)))))
def wla_Mo_classLine_297 (mc ms : Nat) (Post : Ly → St → Nat → Nat → Prop) (PX : Ly → St → Nat → Nat → Prop) (K_240 : Ly → St → Nat → Nat → Int32 → Int32 → Int32 → Int32 → Prop) (a0 : Nat) (y_h297 : Ly) (s_h297 : St) (d_h297 e_h297 : Nat) (x1h297 : Int32) (x3h297 : Int32) (x4h297 : Int32) (x5h297 : Int32) (x6h297 : Int32) (x7h297 : Int32) : Prop := ∃ (I : Ly → St → Nat → Nat → Int32 → Int32 → Int32 → Int32 → Int32 → Int32 → Prop) (μ : Ly → St → Nat → Nat → Int32 → Int32 → Int32 → Int32 → Int32 → Int32 → Nat), I y_h297 s_h297 d_h297 e_h297 x1h297 x3h297 x4h297 x5h297 x6h297 x7h297 ∧ ∀ (u1 : Ly) (u2 : St) (u3 u4 : Nat) (t0 : Int32) (t1 : Int32) (t2 : Int32) (t3 : Int32) (t4 : Int32) (t5 : Int32), I u1 u2 u3 u4 t0 t1 t2 t3 t4 t5 → wba_Mo_classLine_297 mc ms Post PX K_240 (fun z1 z2 z3 z4 t0q t1q t2q t3q t4q t5q => I z1 z2 z3 z4 t0q t1q t2q t3q t4q t5q ∧ μ z1 z2 z3 z4 t0q t1q t2q t3q t4q t5q < μ u1 u2 u3 u4 t0 t1 t2 t3 t4 t5) a0 u1 u2 u3 u4 t0 t1 t2 t3 t4 t5
def wja_Mo_classLine_291 (mc ms : Nat) (Post : Ly → St → Nat → Nat → Prop) (PX : Ly → St → Nat → Nat → Prop) (K_240 : Ly → St → Nat → Nat → Int32 → Int32 → Int32 → Int32 → Prop) (a0 : Nat) (y_j291 : Ly) (s_j291 : St) (d_j291 e_j291 : Nat) (x1j291 : Int32) (x3j291 : Int32) (x4j291 : Int32) (x5j291 : Int32) (x6j291 : Int32) (z1j291 : Int32) (z2j291 : Int32) : Prop := (d_j291 ≤ mc ∧ e_j291 ≤ ms) ∧ wu_Mo_asks y_j291 (fun (s_111 : St) => wla_Mo_classLine_297 mc ms Post PX K_240 a0 y_j291 s_111 d_j291 e_j291 x1j291 x3j291 x4j291 x5j291 x6j291 0) s_j291 a0 z1j291 z2j291
def wja_Mo_classLine_286 (mc ms : Nat) (Post : Ly → St → Nat → Nat → Prop) (PX : Ly → St → Nat → Nat → Prop) (K_240 : Ly → St → Nat → Nat → Int32 → Int32 → Int32 → Int32 → Prop) (a0 : Nat) (y_j286 : Ly) (s_j286 : St) (d_j286 e_j286 : Nat) (x1j286 : Int32) (x3j286 : Int32) (x4j286 : Int32) (x5j286 : Int32) (x6j286 : Int32) (z1j286 : Int32) : Prop := (d_j286 ≤ mc ∧ e_j286 ≤ ms) ∧ wja_Mo_classLine_291 mc ms Post PX K_240 a0 y_j286 s_j286 d_j286 e_j286 x1j286 x3j286 x4j286 x5j286 x6j286 z1j286 1
def wba_Mo_classLine_240 (mc ms : Nat) (Post : Ly → St → Nat → Nat → Prop) (PX : Ly → St → Nat → Nat → Prop) (K_240 : Ly → St → Nat → Nat → Int32 → Int32 → Int32 → Int32 → Prop) (a0 : Nat) (y_h240 : Ly) (s_h240 : St) (d_h240 e_h240 : Nat) (x1h240 : Int32) (x3h240 : Int32) (x4h240 : Int32) (x5h240 : Int32) : Prop := (d_h240 ≤ mc ∧ e_h240 ≤ ms) ∧ xA y_h240 s_h240 a0 39 (sV s_h240 a0 43) (fun x_48 : Int32 => ((¬ x_48 = 44 → ((x5h240 ≤ 4 → wja_Mo_classLine_377 mc ms Post PX a0 y_h240 s_h240 d_h240 e_h240 x1h240 x3h240 x4h240 x5h240 12 0) ∧ (¬ (x5h240 ≤ 4) → wja_Mo_classLine_377 mc ms Post PX a0 y_h240 s_h240 d_h240 e_h240 x1h240 x3h240 x4h240 x5h240 12 1))) ∧ (x_48 = 44 → xP (uV s_h240 a0 43 ((sV s_h240 a0 43) + 1)) (fun s_101 : St => ∃ mc_107 ms_108 : Nat, (d_h240 + mc_107 ≤ mc ∧ e_h240 + ms_108 ≤ ms) ∧ wx_Mo_className mc_107 ms_108 y_h240 (fun (y_104 : Ly) (s_103 : St) (r_102 : Int32) (d_105 e_106 : Nat) => (d_h240 + d_105 ≤ mc ∧ e_h240 + e_106 ≤ ms) ∧ ((r_102 = x3h240 → wja_Mo_classLine_286 mc ms Post PX K_240 a0 y_104 s_103 (d_h240 + d_105) (e_h240 + e_106) x1h240 x3h240 x4h240 x5h240 r_102 11) ∧ (¬ (r_102 = x3h240) → ((¬ r_102 = x4h240 → wja_Mo_classLine_291 mc ms Post PX K_240 a0 y_104 s_103 (d_h240 + d_105) (e_h240 + e_106) x1h240 x3h240 x4h240 x5h240 r_102 11 0) ∧ (r_102 = x4h240 → wja_Mo_classLine_286 mc ms Post PX K_240 a0 y_104 s_103 (d_h240 + d_105) (e_h240 + e_106) x1h240 x3h240 x4h240 x5h240 r_102 11))))) (fun (y_104 : Ly) (s_103 : St) (d_105 e_106 : Nat) => ((d_h240 + d_105 ≤ mc ∧ e_h240 + e_106 ≤ ms) ∧ PX y_104 s_103 (d_h240 + d_105) (e_h240 + e_106))) s_101 a0))))
def wla_Mo_classLine_240 (mc ms : Nat) (Post : Ly → St → Nat → Nat → Prop) (PX : Ly → St → Nat → Nat → Prop) (a0 : Nat) (y_h240 : Ly) (s_h240 : St) (d_h240 e_h240 : Nat) (x1h240 : Int32) (x3h240 : Int32) (x4h240 : Int32) (x5h240 : Int32) : Prop := ∃ (I : Ly → St → Nat → Nat → Int32 → Int32 → Int32 → Int32 → Prop) (μ : Ly → St → Nat → Nat → Int32 → Int32 → Int32 → Int32 → Nat), I y_h240 s_h240 d_h240 e_h240 x1h240 x3h240 x4h240 x5h240 ∧ ∀ (u1 : Ly) (u2 : St) (u3 u4 : Nat) (t0 : Int32) (t1 : Int32) (t2 : Int32) (t3 : Int32), I u1 u2 u3 u4 t0 t1 t2 t3 → wba_Mo_classLine_240 mc ms Post PX (fun z1 z2 z3 z4 t0q t1q t2q t3q => I z1 z2 z3 z4 t0q t1q t2q t3q ∧ μ z1 z2 z3 z4 t0q t1q t2q t3q < μ u1 u2 u3 u4 t0 t1 t2 t3) a0 u1 u2 u3 u4 t0 t1 t2 t3
def wja_Mo_classLine_234 (mc ms : Nat) (Post : Ly → St → Nat → Nat → Prop) (PX : Ly → St → Nat → Nat → Prop) (a0 : Nat) (y_j234 : Ly) (s_j234 : St) (d_j234 e_j234 : Nat) (x1j234 : Int32) (x3j234 : Int32) (x4j234 : Int32) (z1j234 : Int32) (z2j234 : Int32) : Prop := (d_j234 ≤ mc ∧ e_j234 ≤ ms) ∧ wu_Mo_asks y_j234 (fun (s_47 : St) => wla_Mo_classLine_240 mc ms Post PX a0 y_j234 s_47 d_j234 e_j234 x1j234 x3j234 x4j234 0) s_j234 a0 z1j234 z2j234
def wja_Mo_classLine_211 (mc ms : Nat) (Post : Ly → St → Nat → Nat → Prop) (PX : Ly → St → Nat → Nat → Prop) (a0 : Nat) (y_j211 : Ly) (s_j211 : St) (d_j211 e_j211 : Nat) (x1j211 : Int32) (x3j211 : Int32) (x4j211 : Int32) (z1j211 : Int32) (z2j211 : Int32) : Prop := (d_j211 ≤ mc ∧ e_j211 ≤ ms) ∧ wu_Mo_asks y_j211 (fun (s_42 : St) => ∃ b_43 : Nat, sO s_42 a0 45 = some b_43 ∧ cl b_43 = 13 ∧ ((¬ (sV s_42 b_43 2) = 51 → wja_Mo_classLine_234 mc ms Post PX a0 y_j211 s_42 d_j211 e_j211 x1j211 x3j211 x4j211 12 0) ∧ ((sV s_42 b_43 2) = 51 → wja_Mo_classLine_234 mc ms Post PX a0 y_j211 s_42 d_j211 e_j211 x1j211 x3j211 x4j211 12 1))) s_j211 a0 z1j211 z2j211
def wja_Mo_classLine_194 (mc ms : Nat) (Post : Ly → St → Nat → Nat → Prop) (PX : Ly → St → Nat → Nat → Prop) (a0 : Nat) (y_j194 : Ly) (s_j194 : St) (d_j194 e_j194 : Nat) (x1j194 : Int32) (x3j194 : Int32) (x4j194 : Int32) (z1j194 : Int32) (z2j194 : Int32) : Prop := (d_j194 ≤ mc ∧ e_j194 ≤ ms) ∧ wu_Mo_asks y_j194 (fun (s_40 : St) => ((¬ x4j194 = x3j194 → wja_Mo_classLine_211 mc ms Post PX a0 y_j194 s_40 d_j194 e_j194 x1j194 x3j194 x4j194 11 0) ∧ (x4j194 = x3j194 → wja_Mo_classLine_211 mc ms Post PX a0 y_j194 s_40 d_j194 e_j194 x1j194 x3j194 x4j194 11 1))) s_j194 a0 z1j194 z2j194
def wja_Mo_classLine_193 (mc ms : Nat) (Post : Ly → St → Nat → Nat → Prop) (PX : Ly → St → Nat → Nat → Prop) (a0 : Nat) (y_j193 : Ly) (s_j193 : St) (d_j193 e_j193 : Nat) (x1j193 : Int32) (x3j193 : Int32) (x4j193 : Int32) (z1j193 : Int32) : Prop := (d_j193 ≤ mc ∧ e_j193 ≤ ms) ∧ wja_Mo_classLine_194 mc ms Post PX a0 y_j193 s_j193 d_j193 e_j193 x1j193 x3j193 x4j193 z1j193 0
def wja_Mo_classLine_189 (mc ms : Nat) (Post : Ly → St → Nat → Nat → Prop) (PX : Ly → St → Nat → Nat → Prop) (a0 : Nat) (y_j189 : Ly) (s_j189 : St) (d_j189 e_j189 : Nat) (x1j189 : Int32) (x3j189 : Int32) (x4j189 : Int32) (z1j189 : Int32) : Prop := (d_j189 ≤ mc ∧ e_j189 ≤ ms) ∧ wja_Mo_classLine_194 mc ms Post PX a0 y_j189 s_j189 d_j189 e_j189 x1j189 x3j189 x4j189 z1j189 1
def wja_Mo_classLine_168 (mc ms : Nat) (Post : Ly → St → Nat → Nat → Prop) (PX : Ly → St → Nat → Nat → Prop) (a0 : Nat) (y_j168 : Ly) (s_j168 : St) (d_j168 e_j168 : Nat) (x1j168 : Int32) (x3j168 : Int32) (x4j168 : Int32) (z1j168 : Int32) : Prop := (d_j168 ≤ mc ∧ e_j168 ≤ ms) ∧ ((x1j168 = 6 → wja_Mo_classLine_189 mc ms Post PX a0 y_j168 s_j168 d_j168 e_j168 x1j168 x3j168 x4j168 z1j168) ∧ (¬ (x1j168 = 6) → (((x1j168 &&& 4) = 0 → wja_Mo_classLine_193 mc ms Post PX a0 y_j168 s_j168 d_j168 e_j168 x1j168 x3j168 x4j168 z1j168) ∧ (¬ ((x1j168 &&& 4) = 0) → ((x4j168 = (sV s_j168 a0 8) → wja_Mo_classLine_193 mc ms Post PX a0 y_j168 s_j168 d_j168 e_j168 x1j168 x3j168 x4j168 z1j168) ∧ (¬ (x4j168 = (sV s_j168 a0 8)) → wja_Mo_classLine_189 mc ms Post PX a0 y_j168 s_j168 d_j168 e_j168 x1j168 x3j168 x4j168 z1j168))))))
def wja_Mo_classLine_144 (mc ms : Nat) (Post : Ly → St → Nat → Nat → Prop) (PX : Ly → St → Nat → Nat → Prop) (a0 : Nat) (y_j144 : Ly) (s_j144 : St) (d_j144 e_j144 : Nat) (x1j144 : Int32) (x3j144 : Int32) (x4j144 : Int32) (z1j144 : Int32) (z2j144 : Int32) : Prop := (d_j144 ≤ mc ∧ e_j144 ≤ ms) ∧ wu_Mo_asks y_j144 (fun (s_36 : St) => wu_Mo_isOff y_j144 (fun (s_38 : St) (r_37 : Int32) => ((¬ r_37 = 0 → wja_Mo_classLine_193 mc ms Post PX a0 y_j144 s_38 d_j144 e_j144 x1j144 x3j144 x4j144 4) ∧ (r_37 = 0 → (((x1j144 &&& 1) = 0 → wja_Mo_classLine_168 mc ms Post PX a0 y_j144 s_38 d_j144 e_j144 x1j144 x3j144 x4j144 4) ∧ (¬ ((x1j144 &&& 1) = 0) → ((¬ x1j144 = 1 → wja_Mo_classLine_189 mc ms Post PX a0 y_j144 s_38 d_j144 e_j144 x1j144 x3j144 x4j144 4) ∧ (x1j144 = 1 → wja_Mo_classLine_168 mc ms Post PX a0 y_j144 s_38 d_j144 e_j144 x1j144 x3j144 x4j144 4))))))) s_36 a0 0) s_j144 a0 z1j144 z2j144
def wja_Mo_classLine_97 (mc ms : Nat) (Post : Ly → St → Nat → Nat → Prop) (PX : Ly → St → Nat → Nat → Prop) (K_4 : Ly → St → Nat → Nat → Int32 → Int32 → Prop) (a0 : Nat) (y_j97 : Ly) (s_j97 : St) (d_j97 e_j97 : Nat) (x1j97 : Int32) (x2j97 : Int32) (z1j97 : Int32) (z2j97 : Int32) : Prop := (d_j97 ≤ mc ∧ e_j97 ≤ ms) ∧ xP (uV s_j97 a0 43 (z1j97 + z2j97)) (fun s_122 : St => K_4 y_j97 s_122 d_j97 e_j97 x1j97 x2j97)
def wja_Mo_classLine_81 (mc ms : Nat) (Post : Ly → St → Nat → Nat → Prop) (PX : Ly → St → Nat → Nat → Prop) (K_4 : Ly → St → Nat → Nat → Int32 → Int32 → Prop) (a0 : Nat) (y_j81 : Ly) (s_j81 : St) (d_j81 e_j81 : Nat) (x2j81 : Int32) (z0j81 : Int32) (z1j81 : Int32) : Prop := (d_j81 ≤ mc ∧ e_j81 ≤ ms) ∧ ((x2j81 = 0 → wja_Mo_classLine_97 mc ms Post PX K_4 a0 y_j81 s_j81 d_j81 e_j81 (z0j81 ||| z1j81) x2j81 (sV s_j81 a0 43) 0) ∧ (¬ (x2j81 = 0) → wja_Mo_classLine_97 mc ms Post PX K_4 a0 y_j81 s_j81 d_j81 e_j81 (z0j81 ||| z1j81) x2j81 (sV s_j81 a0 43) 1))
def wja_Mo_classLine_70 (mc ms : Nat) (Post : Ly → St → Nat → Nat → Prop) (PX : Ly → St → Nat → Nat → Prop) (K_4 : Ly → St → Nat → Nat → Int32 → Int32 → Prop) (a0 : Nat) (y_j70 : Ly) (s_j70 : St) (d_j70 e_j70 : Nat) (x1j70 : Int32) (x3j70 : Int32) (z0j70 : Int32) : Prop := (d_j70 ≤ mc ∧ e_j70 ≤ ms) ∧ ((z0j70 = 0 → wja_Mo_classLine_81 mc ms Post PX K_4 a0 y_j70 s_j70 d_j70 e_j70 z0j70 x1j70 0) ∧ (¬ (z0j70 = 0) → wja_Mo_classLine_81 mc ms Post PX K_4 a0 y_j70 s_j70 d_j70 e_j70 z0j70 x1j70 x3j70))
def wja_Mo_classLine_69 (mc ms : Nat) (Post : Ly → St → Nat → Nat → Prop) (PX : Ly → St → Nat → Nat → Prop) (K_4 : Ly → St → Nat → Nat → Int32 → Int32 → Prop) (a0 : Nat) (y_j69 : Ly) (s_j69 : St) (d_j69 e_j69 : Nat) (x1j69 : Int32) (x3j69 : Int32) : Prop := (d_j69 ≤ mc ∧ e_j69 ≤ ms) ∧ wja_Mo_classLine_70 mc ms Post PX K_4 a0 y_j69 s_j69 d_j69 e_j69 x1j69 x3j69 0
def wja_Mo_classLine_54 (mc ms : Nat) (Post : Ly → St → Nat → Nat → Prop) (PX : Ly → St → Nat → Nat → Prop) (K_4 : Ly → St → Nat → Nat → Int32 → Int32 → Prop) (a0 : Nat) (y_j54 : Ly) (s_j54 : St) (d_j54 e_j54 : Nat) (x1j54 : Int32) (z0j54 : Int32) : Prop := (d_j54 ≤ mc ∧ e_j54 ≤ ms) ∧ ((z0j54 = 0 → wja_Mo_classLine_69 mc ms Post PX K_4 a0 y_j54 s_j54 d_j54 e_j54 x1j54 z0j54) ∧ (¬ (z0j54 = 0) → ((¬ (x1j54 &&& z0j54) = 0 → wja_Mo_classLine_69 mc ms Post PX K_4 a0 y_j54 s_j54 d_j54 e_j54 x1j54 z0j54) ∧ ((x1j54 &&& z0j54) = 0 → wja_Mo_classLine_70 mc ms Post PX K_4 a0 y_j54 s_j54 d_j54 e_j54 x1j54 z0j54 1))))
def wba_Mo_classLine_4 (mc ms : Nat) (Post : Ly → St → Nat → Nat → Prop) (PX : Ly → St → Nat → Nat → Prop) (K_4 : Ly → St → Nat → Nat → Int32 → Int32 → Prop) (a0 : Nat) (y_h4 : Ly) (s_h4 : St) (d_h4 e_h4 : Nat) (x1h4 : Int32) (x2h4 : Int32) : Prop := (d_h4 ≤ mc ∧ e_h4 ≤ ms) ∧ ((x2h4 = 0 → ∃ mc_6 ms_7 : Nat, (d_h4 + mc_6 ≤ mc ∧ e_h4 + ms_7 ≤ ms) ∧ wx_Mo_needWord mc_6 ms_7 y_h4 (fun (y_3 : Ly) (s_2 : St) (d_4 e_5 : Nat) => (d_h4 + d_4 ≤ mc ∧ e_h4 + e_5 ≤ ms) ∧ ∃ mc_14 ms_15 : Nat, (d_h4 + d_4 + mc_14 ≤ mc ∧ e_h4 + e_5 + ms_15 ≤ ms) ∧ wx_Mo_className mc_14 ms_15 y_3 (fun (y_11 : Ly) (s_10 : St) (r_9 : Int32) (d_12 e_13 : Nat) => (d_h4 + d_4 + d_12 ≤ mc ∧ e_h4 + e_5 + e_13 ≤ ms) ∧ ∃ mc_22 ms_23 : Nat, (d_h4 + d_4 + d_12 + mc_22 ≤ mc ∧ e_h4 + e_5 + e_13 + ms_23 ≤ ms) ∧ wx_Mo_need mc_22 ms_23 y_11 (fun (y_19 : Ly) (s_18 : St) (d_20 e_21 : Nat) => (d_h4 + d_4 + d_12 + d_20 ≤ mc ∧ e_h4 + e_5 + e_13 + e_21 ≤ ms) ∧ ∃ mc_30 ms_31 : Nat, (d_h4 + d_4 + d_12 + d_20 + mc_30 ≤ mc ∧ e_h4 + e_5 + e_13 + e_21 + ms_31 ≤ ms) ∧ wx_Mo_className mc_30 ms_31 y_19 (fun (y_27 : Ly) (s_26 : St) (r_25 : Int32) (d_28 e_29 : Nat) => (d_h4 + d_4 + d_12 + d_20 + d_28 ≤ mc ∧ e_h4 + e_5 + e_13 + e_21 + e_29 ≤ ms) ∧ wu_Mo_classOf y_27 (fun (s_34 : St) (r_33 : Int32) => ((r_33 < 0 → wja_Mo_classLine_144 mc ms Post PX a0 y_27 s_34 (d_h4 + d_4 + d_12 + d_20 + d_28) (e_h4 + e_5 + e_13 + e_21 + e_29) x1h4 r_9 r_25 2 0) ∧ (¬ (r_33 < 0) → wja_Mo_classLine_144 mc ms Post PX a0 y_27 s_34 (d_h4 + d_4 + d_12 + d_20 + d_28) (e_h4 + e_5 + e_13 + e_21 + e_29) x1h4 r_9 r_25 2 1))) s_26 a0 r_9) (fun (y_27 : Ly) (s_26 : St) (d_28 e_29 : Nat) => ((d_h4 + d_4 + d_12 + d_20 + d_28 ≤ mc ∧ e_h4 + e_5 + e_13 + e_21 + e_29 ≤ ms) ∧ PX y_27 s_26 (d_h4 + d_4 + d_12 + d_20 + d_28) (e_h4 + e_5 + e_13 + e_21 + e_29))) s_18 a0) (fun (y_19 : Ly) (s_18 : St) (d_20 e_21 : Nat) => ((d_h4 + d_4 + d_12 + d_20 ≤ mc ∧ e_h4 + e_5 + e_13 + e_21 ≤ ms) ∧ PX y_19 s_18 (d_h4 + d_4 + d_12 + d_20) (e_h4 + e_5 + e_13 + e_21))) s_10 a0 58) (fun (y_11 : Ly) (s_10 : St) (d_12 e_13 : Nat) => ((d_h4 + d_4 + d_12 ≤ mc ∧ e_h4 + e_5 + e_13 ≤ ms) ∧ PX y_11 s_10 (d_h4 + d_4 + d_12) (e_h4 + e_5 + e_13))) s_2 a0) (fun (y_3 : Ly) (s_2 : St) (d_4 e_5 : Nat) => ((d_h4 + d_4 ≤ mc ∧ e_h4 + e_5 ≤ ms) ∧ PX y_3 s_2 (d_h4 + d_4) (e_h4 + e_5))) s_h4 a0 (sV s_h4 a0 9)) ∧ (¬ (x2h4 = 0) → wu_Mo_isWord y_h4 (fun (s_121 : St) (r_120 : Int32) => ((r_120 = 0 → wu_Mo_isWord y_h4 (fun (s_124 : St) (r_123 : Int32) => ((r_123 = 0 → wu_Mo_isWord y_h4 (fun (s_126 : St) (r_125 : Int32) => ((r_125 = 0 → wja_Mo_classLine_54 mc ms Post PX K_4 a0 y_h4 s_126 d_h4 e_h4 x1h4 0) ∧ (¬ (r_125 = 0) → wja_Mo_classLine_54 mc ms Post PX K_4 a0 y_h4 s_126 d_h4 e_h4 x1h4 4))) s_124 a0 (sV s_124 a0 12)) ∧ (¬ (r_123 = 0) → wja_Mo_classLine_54 mc ms Post PX K_4 a0 y_h4 s_124 d_h4 e_h4 x1h4 2))) s_121 a0 (sV s_121 a0 11)) ∧ (¬ (r_120 = 0) → wja_Mo_classLine_54 mc ms Post PX K_4 a0 y_h4 s_121 d_h4 e_h4 x1h4 1))) s_h4 a0 (sV s_h4 a0 10)))
def wla_Mo_classLine_4 (mc ms : Nat) (Post : Ly → St → Nat → Nat → Prop) (PX : Ly → St → Nat → Nat → Prop) (a0 : Nat) (y_h4 : Ly) (s_h4 : St) (d_h4 e_h4 : Nat) (x1h4 : Int32) (x2h4 : Int32) : Prop := ∃ (I : Ly → St → Nat → Nat → Int32 → Int32 → Prop) (μ : Ly → St → Nat → Nat → Int32 → Int32 → Nat), I y_h4 s_h4 d_h4 e_h4 x1h4 x2h4 ∧ ∀ (u1 : Ly) (u2 : St) (u3 u4 : Nat) (t0 : Int32) (t1 : Int32), I u1 u2 u3 u4 t0 t1 → wba_Mo_classLine_4 mc ms Post PX (fun z1 z2 z3 z4 t0q t1q => I z1 z2 z3 z4 t0q t1q ∧ μ z1 z2 z3 z4 t0q t1q < μ u1 u2 u3 u4 t0 t1) a0 u1 u2 u3 u4 t0 t1
def wx_Mo_classLine (mc ms : Nat) (y : Ly) (Post : Ly → St → Nat → Nat → Prop) (PX : Ly → St → Nat → Nat → Prop) (σ : St) (a0 : Nat) : Prop := wla_Mo_classLine_4 mc ms Post PX a0 y σ 0 0 0 1
set_option maxHeartbeats 4000000 in
set_option maxRecDepth 100000 in
theorem cx_Mo_classLine (l : Launch) (D : va_G) (g : Nat → ClassId) (ad : Nat → Nat) (mc ms : Nat) (y : Ly) (Post : Ly → St → Nat → Nat → Prop) (PX : Ly → St → Nat → Nat → Prop) (σ : St) (a0 : Nat) (sz uz : Nat) (h_a0 : cl a0 = 14) (h : wx_Mo_classLine mc ms y Post PX σ a0) : vx_Met l y_Mo_classLine (mw y_Mo_classLine b_Mo_classLine 8 (none)) (ra_Mo_classLine mc ms) (PCu g D [] [.ref (ad a0)] sz uz (ws g ad y σ)) (va_Qv (fun (u : Ly × St × Nat × Nat) => Post u.1 u.2.1 u.2.2.1 u.2.2.2) (QU D (va_A (ws g ad y σ) sz) (fun u => ws g ad u.1 u.2.1) sz uz (fun u => u.2.2.1) (fun u => u.2.2.2)) (va_A (ws g ad y σ) sz)) (XQ D g ad (va_A (ws g ad y σ) sz) sz uz PX) mc ms (va_A (ws g ad y σ) sz) := by
  refine ofVx (by decide +kernel) (Nat.le_of_ble_eq_true rfl) ?_
  intro p e s m args below meth c A Q ls H locs G hsz hP hD hS hl hret hretX
  subst hsz
  have hl : lv_has ls 8 [(0, .ref (ad a0))] := hl
  have hd : 0 ≤ mc ∧ 0 ≤ ms := ⟨Nat.zero_le _, Nat.zero_le _⟩
  unfold wx_Mo_classLine at h
  refine lv_iconst (v := 0) G.1 G.2.1 d_Mo_classLine_0 (by decide) ?_
  refine lv_istore_n (lv' := [(1, .int 0), (0, .ref (ad a0))]) G.1 G.2.1 d_Mo_classLine_1 rfl hl (by decide) rfl (fun ls hl => ?_)
  refine lv_iconst (v := 1) G.1 G.2.1 d_Mo_classLine_2 (by decide) ?_
  refine lv_istore_n (lv' := [(2, .int 1), (1, .int 0), (0, .ref (ad a0))]) G.1 G.2.1 d_Mo_classLine_3 rfl hl (by decide) rfl (fun ls hl => ?_)
  unfold wla_Mo_classLine_4 at h
  obtain ⟨I_4, μ_4, hI_4, hB_4⟩ := h
  have L_4 : ∀ (n_4 : Nat) (y_h4 : Ly) (s_h4 : St) (d_h4 e_h4 : Nat) (x1h4 : Int32) (x2h4 : Int32), μ_4 y_h4 s_h4 d_h4 e_h4 x1h4 x2h4 < n_4 → I_4 y_h4 s_h4 d_h4 e_h4 x1h4 x2h4 → ∀ (H : Heap) (locs : List Loc), va_P D CL (ws g ad y_h4 s_h4) H → va_D A (ws g ad y_h4 s_h4) → va_S A s.heap H locs → ∀ ls, lv_has ls 8 [(0, .ref (ad a0)), (1, .int x1h4), (2, .int x2h4)] → W p l e (ra_Mo_classLine mc ms) s m args below meth c H locs d_h4 e_h4 Q (F0 m 4 ls []) := by
    intro n_4
    induction n_4 with
    | zero => intro y_h4 s_h4 d_h4 e_h4 x1h4 x2h4 hμ; exact absurd hμ (Nat.not_lt_zero _)
    | succ n_4 ih_4 =>
      intro y_h4 s_h4 d_h4 e_h4 x1h4 x2h4 hμ_4 hJ H locs hP hD hS ls hl
      obtain ⟨K_4, hK_4, h⟩ : ∃ K : Ly → St → Nat → Nat → Int32 → Int32 → Prop, (∀ z1 z2 z3 z4 (t0 : Int32) (t1 : Int32), K z1 z2 z3 z4 t0 t1 → I_4 z1 z2 z3 z4 t0 t1 ∧ μ_4 z1 z2 z3 z4 t0 t1 < μ_4 y_h4 s_h4 d_h4 e_h4 x1h4 x2h4) ∧ wba_Mo_classLine_4 mc ms Post PX K a0 y_h4 s_h4 d_h4 e_h4 x1h4 x2h4 := ⟨_, fun _ _ _ _ _ _ h => h, hB_4 y_h4 s_h4 d_h4 e_h4 x1h4 x2h4 hJ⟩
      unfold wba_Mo_classLine_4 at h
      obtain ⟨hd, h⟩ := h
      refine lv_iload_n G.1 G.2.1 d_Mo_classLine_4 rfl (lv_at hl 2 rfl) ?_
      refine lv_if_eq (tgt := 104) G.1 G.2.1 d_Mo_classLine_5 (by decide) (fun c5 => ?_) (fun c5 => ?_)
      · skip
        have h := h.1 c5
        refine lv_aload_n G.1 G.2.1 d_Mo_classLine_104 rfl (lv_at hl 0 rfl) ?_
        refine lv_aload_n G.1 G.2.1 d_Mo_classLine_105 rfl (lv_at hl 0 rfl) ?_
        refine ugf (v := .int (sV s_h4 a0 9)) G hP h_a0 iMo rfl 9 (by decide) rfl q3073 rfl rfl d_Mo_classLine_106 ?_
        obtain ⟨mc_6, ms_7, hr_8, h⟩ := h
        refine uxVv (As := [.int (sV s_h4 a0 9)]) (rest := []) G hP hD hS (cx_Mo_needWord l D g ad mc_6 ms_7 y_h4 _ _ s_h4 a0 (sV s_h4 a0 9) H.size (us H) h_a0 h) (fun _ h => absurd h List.not_mem_nil) w9_Mo_needWord q3543 ⟨Nat.le_of_ble_eq_true rfl, Nat.le_of_ble_eq_true rfl⟩ rfl rfl h_a0 (q := (RMo, TMo, 131)) rfl rfl hl.1 rfl (Nat.le_of_ble_eq_true rfl) rfl hr_8 d_Mo_classLine_109 (fun y_3 s_2 d_4 e_5 H locs q9 ce h hP hD hS hce hcv hcl => ?_) (fun y_3 s_2 d_4 e_5 H locs h hP hD hS => ?_)
        · skip
          obtain ⟨hd, h⟩ := h
          exact hretX h hP hD hS hd.1 hd.2 hce hcv hcl
        have hl := lv_sub (l' := [(0, .ref (ad a0)), (1, .int x1h4)]) hl [0, 1] rfl
        obtain ⟨hd, h⟩ := h
        refine lv_aload_n G.1 G.2.1 d_Mo_classLine_112 rfl (lv_at hl 0 rfl) ?_
        obtain ⟨mc_14, ms_15, hr_16, h⟩ := h
        refine uxVi (As := []) (rest := []) G hP hD hS (cx_Mo_className l D g ad mc_14 ms_15 y_3 _ _ s_2 a0 H.size (us H) h_a0 h) (fun _ h => absurd h List.not_mem_nil) w9_Mo_className q3555 ⟨Nat.le_of_ble_eq_true rfl, Nat.le_of_ble_eq_true rfl⟩ rfl rfl h_a0 (q := (RMo, TMo, 131)) rfl rfl hl.1 rfl (Nat.le_of_ble_eq_true rfl) rfl hr_16 d_Mo_classLine_113 (fun y_11 s_10 d_12 e_13 H locs q9 ce h hP hD hS hce hcv hcl => ?_) (fun r_9 y_11 s_10 d_12 e_13 H locs h hP hD hS => ?_)
        · skip
          obtain ⟨hd, h⟩ := h
          exact hretX h hP hD hS hd.1 hd.2 hce hcv hcl
        obtain ⟨hd, h⟩ := h
        refine lv_istore_n (lv' := [(3, .int r_9), (0, .ref (ad a0)), (1, .int x1h4)]) G.1 G.2.1 d_Mo_classLine_116 rfl hl (by decide) rfl (fun ls hl => ?_)
        refine lv_aload_n G.1 G.2.1 d_Mo_classLine_117 rfl (lv_at hl 1 rfl) ?_
        refine lv_bipush (v := 58) G.1 G.2.1 d_Mo_classLine_118 (by decide) ?_
        refine W.eq (g2 := F0 m 120 ls [.int 58, .ref (ad a0)]) rfl ?_
        obtain ⟨mc_22, ms_23, hr_24, h⟩ := h
        refine uxVv (As := [.int 58]) (rest := []) G hP hD hS (cx_Mo_need l D g ad mc_22 ms_23 y_11 _ _ s_10 a0 58 H.size (us H) h_a0 h) (fun _ h => absurd h List.not_mem_nil) w9_Mo_need q3567 ⟨Nat.le_of_ble_eq_true rfl, Nat.le_of_ble_eq_true rfl⟩ rfl rfl h_a0 (q := (RMo, TMo, 131)) rfl rfl hl.1 rfl (Nat.le_of_ble_eq_true rfl) rfl hr_24 d_Mo_classLine_120 (fun y_19 s_18 d_20 e_21 H locs q9 ce h hP hD hS hce hcv hcl => ?_) (fun y_19 s_18 d_20 e_21 H locs h hP hD hS => ?_)
        · skip
          obtain ⟨hd, h⟩ := h
          exact hretX h hP hD hS hd.1 hd.2 hce hcv hcl
        obtain ⟨hd, h⟩ := h
        refine lv_aload_n G.1 G.2.1 d_Mo_classLine_123 rfl (lv_at hl 1 rfl) ?_
        obtain ⟨mc_30, ms_31, hr_32, h⟩ := h
        refine uxVi (As := []) (rest := []) G hP hD hS (cx_Mo_className l D g ad mc_30 ms_31 y_19 _ _ s_18 a0 H.size (us H) h_a0 h) (fun _ h => absurd h List.not_mem_nil) w9_Mo_className q3555 ⟨Nat.le_of_ble_eq_true rfl, Nat.le_of_ble_eq_true rfl⟩ rfl rfl h_a0 (q := (RMo, TMo, 131)) rfl rfl hl.1 rfl (Nat.le_of_ble_eq_true rfl) rfl hr_32 d_Mo_classLine_124 (fun y_27 s_26 d_28 e_29 H locs q9 ce h hP hD hS hce hcv hcl => ?_) (fun r_25 y_27 s_26 d_28 e_29 H locs h hP hD hS => ?_)
        · skip
          obtain ⟨hd, h⟩ := h
          exact hretX h hP hD hS hd.1 hd.2 hce hcv hcl
        obtain ⟨hd, h⟩ := h
        refine lv_istore (lv' := [(4, .int r_25), (3, .int r_9), (0, .ref (ad a0)), (1, .int x1h4)]) G.1 G.2.1 d_Mo_classLine_127 hl (by decide) rfl (fun ls hl => ?_)
        refine lv_aload_n G.1 G.2.1 d_Mo_classLine_129 rfl (lv_at hl 2 rfl) ?_
        refine lv_iconst (v := 2) G.1 G.2.1 d_Mo_classLine_130 (by decide) ?_
        refine lv_aload_n G.1 G.2.1 d_Mo_classLine_131 rfl (lv_at hl 2 rfl) ?_
        refine lv_iload_n G.1 G.2.1 d_Mo_classLine_132 rfl (lv_at hl 1 rfl) ?_
        refine ucVi (As := [.int r_9]) (rest := [.int 2, .ref (ad a0)]) G hP hD hS (cu_Mo_classOf l D g ad y_27 _ s_26 a0 r_9 H.size h_a0 h) w9_Mo_classOf q3571 ⟨Nat.le_of_ble_eq_true rfl, Nat.le_of_ble_eq_true rfl⟩ rfl rfl h_a0 (q := (RMo, TMo, 131)) rfl rfl hl.1 rfl (Nat.le_of_ble_eq_true rfl) rfl hd d_Mo_classLine_133 (fun r_33 s_34 H locs h hP hD hS => ?_)
        have J_144 : ∀ (y_j144 : Ly) (s_j144 : St) (d_j144 e_j144 : Nat) (x1j144 : Int32) (x3j144 : Int32) (x4j144 : Int32) (z1j144 : Int32) (z2j144 : Int32) (H : Heap) (locs : List Loc), wja_Mo_classLine_144 mc ms Post PX a0 y_j144 s_j144 d_j144 e_j144 x1j144 x3j144 x4j144 z1j144 z2j144 → va_P D CL (ws g ad y_j144 s_j144) H → va_D A (ws g ad y_j144 s_j144) → va_S A s.heap H locs → ∀ ls, lv_has ls 8 [(0, .ref (ad a0)), (1, .int x1j144), (3, .int x3j144), (4, .int x4j144)] → W p l e (ra_Mo_classLine mc ms) s m args below meth c H locs d_j144 e_j144 Q (F0 m 144 ls [.int z2j144, .int z1j144, .ref (ad a0)]) := by
          intro y_j144 s_j144 d_j144 e_j144 x1j144 x3j144 x4j144 z1j144 z2j144 H locs h hP hD hS ls hl
          unfold wja_Mo_classLine_144 at h
          obtain ⟨hd, h⟩ := h
          refine ucVv (As := [.int z1j144, .int z2j144]) (rest := []) G hP hD hS (cu_Mo_asks l D g ad y_j144 _ s_j144 a0 z1j144 z2j144 H.size h_a0 h) w9_Mo_asks q3575 ⟨Nat.le_of_ble_eq_true rfl, Nat.le_of_ble_eq_true rfl⟩ rfl rfl h_a0 (q := (RMo, TMo, 131)) rfl rfl hl.1 rfl (Nat.le_of_ble_eq_true rfl) rfl hd d_Mo_classLine_144 (fun s_36 H locs h hP hD hS => ?_)
          refine lv_aload_n G.1 G.2.1 d_Mo_classLine_147 rfl (lv_at hl 0 rfl) ?_
          refine lv_iconst (v := 4) G.1 G.2.1 d_Mo_classLine_148 (by decide) ?_
          refine lv_aload_n G.1 G.2.1 d_Mo_classLine_149 rfl (lv_at hl 0 rfl) ?_
          refine lv_iconst (v := 0) G.1 G.2.1 d_Mo_classLine_150 (by decide) ?_
          refine ucVi (As := [.int 0]) (rest := [.int 4, .ref (ad a0)]) G hP hD hS (cu_Mo_isOff l D g ad y_j144 _ s_36 a0 0 H.size h_a0 h) w9_Mo_isOff q3579 ⟨Nat.le_of_ble_eq_true rfl, Nat.le_of_ble_eq_true rfl⟩ rfl rfl h_a0 (q := (RMo, TMo, 131)) rfl rfl hl.1 rfl (Nat.le_of_ble_eq_true rfl) rfl hd d_Mo_classLine_151 (fun r_37 s_38 H locs h hP hD hS => ?_)
          have J_194 : ∀ (y_j194 : Ly) (s_j194 : St) (d_j194 e_j194 : Nat) (x1j194 : Int32) (x3j194 : Int32) (x4j194 : Int32) (z1j194 : Int32) (z2j194 : Int32) (H : Heap) (locs : List Loc), wja_Mo_classLine_194 mc ms Post PX a0 y_j194 s_j194 d_j194 e_j194 x1j194 x3j194 x4j194 z1j194 z2j194 → va_P D CL (ws g ad y_j194 s_j194) H → va_D A (ws g ad y_j194 s_j194) → va_S A s.heap H locs → ∀ ls, lv_has ls 8 [(0, .ref (ad a0)), (1, .int x1j194), (3, .int x3j194), (4, .int x4j194)] → W p l e (ra_Mo_classLine mc ms) s m args below meth c H locs d_j194 e_j194 Q (F0 m 194 ls [.int z2j194, .int z1j194, .ref (ad a0)]) := by
            intro y_j194 s_j194 d_j194 e_j194 x1j194 x3j194 x4j194 z1j194 z2j194 H locs h hP hD hS ls hl
            unfold wja_Mo_classLine_194 at h
            obtain ⟨hd, h⟩ := h
            refine ucVv (As := [.int z1j194, .int z2j194]) (rest := []) G hP hD hS (cu_Mo_asks l D g ad y_j194 _ s_j194 a0 z1j194 z2j194 H.size h_a0 h) w9_Mo_asks q3575 ⟨Nat.le_of_ble_eq_true rfl, Nat.le_of_ble_eq_true rfl⟩ rfl rfl h_a0 (q := (RMo, TMo, 131)) rfl rfl hl.1 rfl (Nat.le_of_ble_eq_true rfl) rfl hd d_Mo_classLine_194 (fun s_40 H locs h hP hD hS => ?_)
            refine lv_aload_n G.1 G.2.1 d_Mo_classLine_197 rfl (lv_at hl 0 rfl) ?_
            refine lv_bipush (v := 11) G.1 G.2.1 d_Mo_classLine_198 (by decide) ?_
            refine lv_iload G.1 G.2.1 d_Mo_classLine_200 (lv_at hl 3 rfl) ?_
            refine lv_iload_n G.1 G.2.1 d_Mo_classLine_202 rfl (lv_at hl 2 rfl) ?_
            have J_211 : ∀ (y_j211 : Ly) (s_j211 : St) (d_j211 e_j211 : Nat) (x1j211 : Int32) (x3j211 : Int32) (x4j211 : Int32) (z1j211 : Int32) (z2j211 : Int32) (H : Heap) (locs : List Loc), wja_Mo_classLine_211 mc ms Post PX a0 y_j211 s_j211 d_j211 e_j211 x1j211 x3j211 x4j211 z1j211 z2j211 → va_P D CL (ws g ad y_j211 s_j211) H → va_D A (ws g ad y_j211 s_j211) → va_S A s.heap H locs → ∀ ls, lv_has ls 8 [(0, .ref (ad a0)), (1, .int x1j211), (3, .int x3j211), (4, .int x4j211)] → W p l e (ra_Mo_classLine mc ms) s m args below meth c H locs d_j211 e_j211 Q (F0 m 211 ls [.int z2j211, .int z1j211, .ref (ad a0)]) := by
              intro y_j211 s_j211 d_j211 e_j211 x1j211 x3j211 x4j211 z1j211 z2j211 H locs h hP hD hS ls hl
              unfold wja_Mo_classLine_211 at h
              obtain ⟨hd, h⟩ := h
              refine ucVv (As := [.int z1j211, .int z2j211]) (rest := []) G hP hD hS (cu_Mo_asks l D g ad y_j211 _ s_j211 a0 z1j211 z2j211 H.size h_a0 h) w9_Mo_asks q3575 ⟨Nat.le_of_ble_eq_true rfl, Nat.le_of_ble_eq_true rfl⟩ rfl rfl h_a0 (q := (RMo, TMo, 131)) rfl rfl hl.1 rfl (Nat.le_of_ble_eq_true rfl) rfl hd d_Mo_classLine_211 (fun s_42 H locs h hP hD hS => ?_)
              refine lv_aload_n G.1 G.2.1 d_Mo_classLine_214 rfl (lv_at hl 0 rfl) ?_
              refine lv_bipush (v := 12) G.1 G.2.1 d_Mo_classLine_215 (by decide) ?_
              refine lv_aload_n G.1 G.2.1 d_Mo_classLine_217 rfl (lv_at hl 0 rfl) ?_
              obtain ⟨b_43, e_44, c_45, h⟩ := h
              refine ugf (v := .ref (ad b_43)) G hP h_a0 iMo rfl 45 (by decide) rfl q3109 rfl (by show va_rf ((sO s_42 a0 45).map ad) = _; rw [e_44]; rfl) d_Mo_classLine_218 ?_
              refine ugfN (v := .int (sV s_42 b_43 2)) G hP c_45 iMw rfl 2 (by decide) rfl q2708 rfl rfl d_Mo_classLine_221 ?_
              refine lv_bipush (v := 51) G.1 G.2.1 d_Mo_classLine_224 (by decide) ?_
              have J_234 : ∀ (y_j234 : Ly) (s_j234 : St) (d_j234 e_j234 : Nat) (x1j234 : Int32) (x3j234 : Int32) (x4j234 : Int32) (z1j234 : Int32) (z2j234 : Int32) (H : Heap) (locs : List Loc), wja_Mo_classLine_234 mc ms Post PX a0 y_j234 s_j234 d_j234 e_j234 x1j234 x3j234 x4j234 z1j234 z2j234 → va_P D CL (ws g ad y_j234 s_j234) H → va_D A (ws g ad y_j234 s_j234) → va_S A s.heap H locs → ∀ ls, lv_has ls 8 [(0, .ref (ad a0)), (1, .int x1j234), (3, .int x3j234), (4, .int x4j234)] → W p l e (ra_Mo_classLine mc ms) s m args below meth c H locs d_j234 e_j234 Q (F0 m 234 ls [.int z2j234, .int z1j234, .ref (ad a0)]) := by
                intro y_j234 s_j234 d_j234 e_j234 x1j234 x3j234 x4j234 z1j234 z2j234 H locs h hP hD hS ls hl
                unfold wja_Mo_classLine_234 at h
                obtain ⟨hd, h⟩ := h
                refine ucVv (As := [.int z1j234, .int z2j234]) (rest := []) G hP hD hS (cu_Mo_asks l D g ad y_j234 _ s_j234 a0 z1j234 z2j234 H.size h_a0 h) w9_Mo_asks q3575 ⟨Nat.le_of_ble_eq_true rfl, Nat.le_of_ble_eq_true rfl⟩ rfl rfl h_a0 (q := (RMo, TMo, 131)) rfl rfl hl.1 rfl (Nat.le_of_ble_eq_true rfl) rfl hd d_Mo_classLine_234 (fun s_47 H locs h hP hD hS => ?_)
                refine lv_iconst (v := 0) G.1 G.2.1 d_Mo_classLine_237 (by decide) ?_
                refine lv_istore (lv' := [(5, .int 0), (0, .ref (ad a0)), (1, .int x1j234), (3, .int x3j234), (4, .int x4j234)]) G.1 G.2.1 d_Mo_classLine_238 hl (by decide) rfl (fun ls hl => ?_)
                unfold wla_Mo_classLine_240 at h
                obtain ⟨I_240, μ_240, hI_240, hB_240⟩ := h
                have L_240 : ∀ (n_240 : Nat) (y_h240 : Ly) (s_h240 : St) (d_h240 e_h240 : Nat) (x1h240 : Int32) (x3h240 : Int32) (x4h240 : Int32) (x5h240 : Int32), μ_240 y_h240 s_h240 d_h240 e_h240 x1h240 x3h240 x4h240 x5h240 < n_240 → I_240 y_h240 s_h240 d_h240 e_h240 x1h240 x3h240 x4h240 x5h240 → ∀ (H : Heap) (locs : List Loc), va_P D CL (ws g ad y_h240 s_h240) H → va_D A (ws g ad y_h240 s_h240) → va_S A s.heap H locs → ∀ ls, lv_has ls 8 [(0, .ref (ad a0)), (1, .int x1h240), (3, .int x3h240), (4, .int x4h240), (5, .int x5h240)] → W p l e (ra_Mo_classLine mc ms) s m args below meth c H locs d_h240 e_h240 Q (F0 m 240 ls []) := by
                  intro n_240
                  induction n_240 with
                  | zero => intro y_h240 s_h240 d_h240 e_h240 x1h240 x3h240 x4h240 x5h240 hμ; exact absurd hμ (Nat.not_lt_zero _)
                  | succ n_240 ih_240 =>
                    intro y_h240 s_h240 d_h240 e_h240 x1h240 x3h240 x4h240 x5h240 hμ_240 hJ H locs hP hD hS ls hl
                    obtain ⟨K_240, hK_240, h⟩ : ∃ K : Ly → St → Nat → Nat → Int32 → Int32 → Int32 → Int32 → Prop, (∀ z1 z2 z3 z4 (t0 : Int32) (t1 : Int32) (t2 : Int32) (t3 : Int32), K z1 z2 z3 z4 t0 t1 t2 t3 → I_240 z1 z2 z3 z4 t0 t1 t2 t3 ∧ μ_240 z1 z2 z3 z4 t0 t1 t2 t3 < μ_240 y_h240 s_h240 d_h240 e_h240 x1h240 x3h240 x4h240 x5h240) ∧ wba_Mo_classLine_240 mc ms Post PX K a0 y_h240 s_h240 d_h240 e_h240 x1h240 x3h240 x4h240 x5h240 := ⟨_, fun _ _ _ _ _ _ _ _ h => h, hB_240 y_h240 s_h240 d_h240 e_h240 x1h240 x3h240 x4h240 x5h240 hJ⟩
                    unfold wba_Mo_classLine_240 at h
                    obtain ⟨hd, h⟩ := h
                    refine lv_aload_n G.1 G.2.1 d_Mo_classLine_240 rfl (lv_at hl 0 rfl) ?_
                    refine ugf (v := .ref (yP y_h240 a0 39)) G hP h_a0 iMo rfl 39 (by decide) rfl q3103 rfl rfl d_Mo_classLine_241 ?_
                    refine lv_aload_n G.1 G.2.1 d_Mo_classLine_244 rfl (lv_at hl 0 rfl) ?_
                    refine ugf (v := .int (sV s_h240 a0 43)) G hP h_a0 iMo rfl 43 (by decide) rfl q3107 rfl rfl d_Mo_classLine_245 ?_
                    refine ubald G hP (kdp h_a0 rfl) (typ h_a0 rfl) h d_Mo_classLine_248 (fun x_48 h => ?_)
                    refine lv_bipush (v := 44) G.1 G.2.1 d_Mo_classLine_249 (by decide) ?_
                    refine lv_icmp_ne (tgt := 363) G.1 G.2.1 d_Mo_classLine_251 (by decide) (fun c251 => ?_) (fun c251 => ?_)
                    · skip
                      have h := h.1 c251
                      refine lv_aload_n G.1 G.2.1 d_Mo_classLine_363 rfl (lv_at hl 0 rfl) ?_
                      refine lv_bipush (v := 12) G.1 G.2.1 d_Mo_classLine_364 (by decide) ?_
                      refine lv_iload G.1 G.2.1 d_Mo_classLine_366 (lv_at hl 4 rfl) ?_
                      refine lv_iconst (v := 4) G.1 G.2.1 d_Mo_classLine_368 (by decide) ?_
                      have J_377 : ∀ (y_j377 : Ly) (s_j377 : St) (d_j377 e_j377 : Nat) (x1j377 : Int32) (x3j377 : Int32) (x4j377 : Int32) (x5j377 : Int32) (z1j377 : Int32) (z2j377 : Int32) (H : Heap) (locs : List Loc), wja_Mo_classLine_377 mc ms Post PX a0 y_j377 s_j377 d_j377 e_j377 x1j377 x3j377 x4j377 x5j377 z1j377 z2j377 → va_P D CL (ws g ad y_j377 s_j377) H → va_D A (ws g ad y_j377 s_j377) → va_S A s.heap H locs → ∀ ls, lv_has ls 8 [(0, .ref (ad a0)), (1, .int x1j377), (3, .int x3j377), (4, .int x4j377), (5, .int x5j377)] → W p l e (ra_Mo_classLine mc ms) s m args below meth c H locs d_j377 e_j377 Q (F0 m 377 ls [.int z2j377, .int z1j377, .ref (ad a0)]) := by
                        intro y_j377 s_j377 d_j377 e_j377 x1j377 x3j377 x4j377 x5j377 z1j377 z2j377 H locs h hP hD hS ls hl
                        unfold wja_Mo_classLine_377 at h
                        obtain ⟨hd, h⟩ := h
                        refine ucVv (As := [.int z1j377, .int z2j377]) (rest := []) G hP hD hS (cu_Mo_asks l D g ad y_j377 _ s_j377 a0 z1j377 z2j377 H.size h_a0 h) w9_Mo_asks q3575 ⟨Nat.le_of_ble_eq_true rfl, Nat.le_of_ble_eq_true rfl⟩ rfl rfl h_a0 (q := (RMo, TMo, 131)) rfl rfl hl.1 rfl (Nat.le_of_ble_eq_true rfl) rfl hd d_Mo_classLine_377 (fun s_50 H locs h hP hD hS => ?_)
                        refine lv_aload_n G.1 G.2.1 d_Mo_classLine_380 rfl (lv_at hl 0 rfl) ?_
                        refine lv_iconst (v := 0) G.1 G.2.1 d_Mo_classLine_381 (by decide) ?_
                        obtain ⟨mc_56, ms_57, hr_58, h⟩ := h
                        refine uxVv (As := [.int 0]) (rest := []) G hP hD hS (cx_Mo_need l D g ad mc_56 ms_57 y_j377 _ _ s_50 a0 0 H.size (us H) h_a0 h) (fun _ h => absurd h List.not_mem_nil) w9_Mo_need q3567 ⟨Nat.le_of_ble_eq_true rfl, Nat.le_of_ble_eq_true rfl⟩ rfl rfl h_a0 (q := (RMo, TMo, 131)) rfl rfl hl.1 rfl (Nat.le_of_ble_eq_true rfl) rfl hr_58 d_Mo_classLine_382 (fun y_53 s_52 d_54 e_55 H locs q9 ce h hP hD hS hce hcv hcl => ?_) (fun y_53 s_52 d_54 e_55 H locs h hP hD hS => ?_)
                        · skip
                          obtain ⟨hd, h⟩ := h
                          exact hretX h hP hD hS hd.1 hd.2 hce hcv hcl
                        obtain ⟨hd, h⟩ := h
                        refine lv_aload_n G.1 G.2.1 d_Mo_classLine_385 rfl (lv_at hl 0 rfl) ?_
                        refine ugf (v := .int (sV s_52 a0 51)) G hP h_a0 iMo rfl 51 (by decide) rfl q3115 rfl rfl d_Mo_classLine_386 ?_
                        refine lv_bipush (v := 99) G.1 G.2.1 d_Mo_classLine_389 (by decide) ?_
                        refine lv_icmp_ge (tgt := 395) G.1 G.2.1 d_Mo_classLine_391 (by decide) (fun c391 => ?_) (fun c391 => ?_)
                        · skip
                          have h := h.1 c391
                          refine lv_aload_n G.1 G.2.1 d_Mo_classLine_395 rfl (lv_at hl 0 rfl) ?_
                          obtain ⟨b_59, e_60, c_61, h⟩ := h
                          refine ugf (v := .ref (ad b_59)) G hP h_a0 iMo rfl 45 (by decide) rfl q3109 rfl (by show va_rf ((sO s_52 a0 45).map ad) = _; rw [e_60]; rfl) d_Mo_classLine_396 ?_
                          refine ugfN (v := .int (sV s_52 b_59 2)) G hP c_61 iMw rfl 2 (by decide) rfl q2708 rfl rfl d_Mo_classLine_399 ?_
                          refine W.eq (g2 := F0 m 402 ls [.int (sV s_52 b_59 2)]) rfl ?_
                          refine lv_istore (lv' := [(6, .int (sV s_52 b_59 2)), (0, .ref (ad a0)), (1, .int x1j377), (3, .int x3j377), (4, .int x4j377), (5, .int x5j377)]) G.1 G.2.1 d_Mo_classLine_402 hl (by decide) rfl (fun ls hl => ?_)
                          refine lv_aload_n G.1 G.2.1 d_Mo_classLine_404 rfl (lv_at hl 1 rfl) ?_
                          refine ugf (v := .ref (yP y_53 a0 57)) G hP h_a0 iMo rfl 57 (by decide) rfl q3121 rfl rfl d_Mo_classLine_405 ?_
                          refine lv_iconst (v := 0) G.1 G.2.1 d_Mo_classLine_408 (by decide) ?_
                          refine lv_aload_n G.1 G.2.1 d_Mo_classLine_409 rfl (lv_at hl 1 rfl) ?_
                          refine ugf (v := .ref (ad b_59)) G hP h_a0 iMo rfl 45 (by decide) rfl q3109 rfl (by show va_rf ((sO s_52 a0 45).map ad) = _; rw [e_60]; rfl) d_Mo_classLine_410 ?_
                          refine ugfN (v := .ref (yP y_53 b_59 6)) G hP c_61 iMw rfl 6 (by decide) rfl q2716 rfl rfl d_Mo_classLine_413 ?_
                          refine lv_iconst (v := 4) G.1 G.2.1 d_Mo_classLine_416 (by decide) ?_
                          refine lv_iload G.1 G.2.1 d_Mo_classLine_417 (lv_at hl 0 rfl) ?_
                          refine lv_imul G.1 G.2.1 d_Mo_classLine_419 ?_
                          refine lv_iload G.1 G.2.1 d_Mo_classLine_420 (lv_at hl 5 rfl) ?_
                          refine ucpy G hP hD hS (kdp h_a0 rfl) (typ h_a0 rfl) (kdp c_61 rfl) (typ c_61 rfl) rfl rfl h hl.1 q2595 q488 q487 q338 (Nat.le_of_ble_eq_true rfl) (Nat.le_of_ble_eq_true rfl) d_Mo_classLine_422 (fun s_62 H locs h hP hD hS => ?_)
                          refine W.eq (g2 := F0 m 425 ls []) rfl ?_
                          refine lv_aload_n G.1 G.2.1 d_Mo_classLine_425 rfl (lv_at hl 1 rfl) ?_
                          obtain ⟨b_63, e_64, c_65, h⟩ := h
                          refine ugf (v := .ref (ad b_63)) G hP h_a0 iMo rfl 45 (by decide) rfl q3109 rfl (by show va_rf ((sO s_62 a0 45).map ad) = _; rw [e_64]; rfl) d_Mo_classLine_426 ?_
                          refine ugfN (v := .ref (yP y_53 b_63 3)) G hP c_65 iMw rfl 3 (by decide) rfl q2710 rfl rfl d_Mo_classLine_429 ?_
                          refine lv_iload G.1 G.2.1 d_Mo_classLine_432 (lv_at hl 0 rfl) ?_
                          refine lv_iload_n G.1 G.2.1 d_Mo_classLine_434 rfl (lv_at hl 3 rfl) ?_
                          refine uiast G hP hD hS (kdp c_65 rfl) (typ c_65 rfl) h d_Mo_classLine_435 (fun s_66 H locs h hP hD hS => ?_)
                          refine lv_aload_n G.1 G.2.1 d_Mo_classLine_436 rfl (lv_at hl 1 rfl) ?_
                          obtain ⟨b_67, e_68, c_69, h⟩ := h
                          refine ugf (v := .ref (ad b_67)) G hP h_a0 iMo rfl 45 (by decide) rfl q3109 rfl (by show va_rf ((sO s_66 a0 45).map ad) = _; rw [e_68]; rfl) d_Mo_classLine_437 ?_
                          refine ugfN (v := .ref (yP y_53 b_67 4)) G hP c_69 iMw rfl 4 (by decide) rfl q2712 rfl rfl d_Mo_classLine_440 ?_
                          refine lv_iload G.1 G.2.1 d_Mo_classLine_443 (lv_at hl 0 rfl) ?_
                          refine lv_iload G.1 G.2.1 d_Mo_classLine_445 (lv_at hl 4 rfl) ?_
                          refine uiast G hP hD hS (kdp c_69 rfl) (typ c_69 rfl) h d_Mo_classLine_447 (fun s_70 H locs h hP hD hS => ?_)
                          refine W.eq (g2 := F0 m 448 ls []) rfl ?_
                          refine lv_aload_n G.1 G.2.1 d_Mo_classLine_448 rfl (lv_at hl 1 rfl) ?_
                          obtain ⟨b_71, e_72, c_73, h⟩ := h
                          refine ugf (v := .ref (ad b_71)) G hP h_a0 iMo rfl 45 (by decide) rfl q3109 rfl (by show va_rf ((sO s_70 a0 45).map ad) = _; rw [e_72]; rfl) d_Mo_classLine_449 ?_
                          refine ugfN (v := .ref (yP y_53 b_71 5)) G hP c_73 iMw rfl 5 (by decide) rfl q2714 rfl rfl d_Mo_classLine_452 ?_
                          refine lv_iload G.1 G.2.1 d_Mo_classLine_455 (lv_at hl 0 rfl) ?_
                          refine lv_iload_n G.1 G.2.1 d_Mo_classLine_457 rfl (lv_at hl 2 rfl) ?_
                          refine uiast G hP hD hS (kdp c_73 rfl) (typ c_73 rfl) h d_Mo_classLine_458 (fun s_74 H locs h hP hD hS => ?_)
                          refine lv_aload_n G.1 G.2.1 d_Mo_classLine_459 rfl (lv_at hl 1 rfl) ?_
                          obtain ⟨b_75, e_76, c_77, h⟩ := h
                          refine ugf (v := .ref (ad b_75)) G hP h_a0 iMo rfl 45 (by decide) rfl q3109 rfl (by show va_rf ((sO s_74 a0 45).map ad) = _; rw [e_76]; rfl) d_Mo_classLine_460 ?_
                          refine ugfN (v := .ref (yP y_53 b_75 7)) G hP c_77 iMw rfl 7 (by decide) rfl q2718 rfl rfl d_Mo_classLine_463 ?_
                          refine lv_iload G.1 G.2.1 d_Mo_classLine_466 (lv_at hl 0 rfl) ?_
                          refine lv_iload G.1 G.2.1 d_Mo_classLine_468 (lv_at hl 5 rfl) ?_
                          refine uiast G hP hD hS (kdp c_77 rfl) (typ c_77 rfl) h d_Mo_classLine_470 (fun s_78 H locs h hP hD hS => ?_)
                          refine W.eq (g2 := F0 m 471 ls []) rfl ?_
                          refine lv_aload_n G.1 G.2.1 d_Mo_classLine_471 rfl (lv_at hl 1 rfl) ?_
                          obtain ⟨b_79, e_80, c_81, h⟩ := h
                          refine ugf (v := .ref (ad b_79)) G hP h_a0 iMo rfl 45 (by decide) rfl q3109 rfl (by show va_rf ((sO s_78 a0 45).map ad) = _; rw [e_80]; rfl) d_Mo_classLine_472 ?_
                          refine ugfN (v := .ref (yP y_53 b_79 8)) G hP c_81 iMw rfl 8 (by decide) rfl q2720 rfl rfl d_Mo_classLine_475 ?_
                          refine lv_iload G.1 G.2.1 d_Mo_classLine_478 (lv_at hl 0 rfl) ?_
                          refine lv_iconst (v := 0) G.1 G.2.1 d_Mo_classLine_480 (by decide) ?_
                          refine uiast G hP hD hS (kdp c_81 rfl) (typ c_81 rfl) h d_Mo_classLine_481 (fun s_82 H locs h hP hD hS => ?_)
                          refine lv_aload_n G.1 G.2.1 d_Mo_classLine_482 rfl (lv_at hl 1 rfl) ?_
                          obtain ⟨b_83, e_84, c_85, h⟩ := h
                          refine ugf (v := .ref (ad b_83)) G hP h_a0 iMo rfl 45 (by decide) rfl q3109 rfl (by show va_rf ((sO s_82 a0 45).map ad) = _; rw [e_84]; rfl) d_Mo_classLine_483 ?_
                          refine ugfN (v := .ref (yP y_53 b_83 9)) G hP c_85 iMw rfl 9 (by decide) rfl q2722 rfl rfl d_Mo_classLine_486 ?_
                          refine lv_iload G.1 G.2.1 d_Mo_classLine_489 (lv_at hl 0 rfl) ?_
                          refine lv_iconst (v := 0) G.1 G.2.1 d_Mo_classLine_491 (by decide) ?_
                          refine uiast G hP hD hS (kdp c_85 rfl) (typ c_85 rfl) h d_Mo_classLine_492 (fun s_86 H locs h hP hD hS => ?_)
                          refine W.eq (g2 := F0 m 493 ls []) rfl ?_
                          refine lv_aload_n G.1 G.2.1 d_Mo_classLine_493 rfl (lv_at hl 1 rfl) ?_
                          obtain ⟨b_87, e_88, c_89, h⟩ := h
                          refine ugf (v := .ref (ad b_87)) G hP h_a0 iMo rfl 45 (by decide) rfl q3109 rfl (by show va_rf ((sO s_86 a0 45).map ad) = _; rw [e_88]; rfl) d_Mo_classLine_494 ?_
                          refine ugfN (v := .ref (yP y_53 b_87 10)) G hP c_89 iMw rfl 10 (by decide) rfl q2724 rfl rfl d_Mo_classLine_497 ?_
                          refine lv_iload G.1 G.2.1 d_Mo_classLine_500 (lv_at hl 0 rfl) ?_
                          refine lv_iconst (v := 0) G.1 G.2.1 d_Mo_classLine_502 (by decide) ?_
                          refine uiast G hP hD hS (kdp c_89 rfl) (typ c_89 rfl) h d_Mo_classLine_503 (fun s_90 H locs h hP hD hS => ?_)
                          refine lv_aload_n G.1 G.2.1 d_Mo_classLine_504 rfl (lv_at hl 1 rfl) ?_
                          obtain ⟨b_91, e_92, c_93, h⟩ := h
                          refine ugf (v := .ref (ad b_91)) G hP h_a0 iMo rfl 45 (by decide) rfl q3109 rfl (by show va_rf ((sO s_90 a0 45).map ad) = _; rw [e_92]; rfl) d_Mo_classLine_505 ?_
                          refine ugfN (v := .ref (yP y_53 b_91 11)) G hP c_93 iMw rfl 11 (by decide) rfl q2726 rfl rfl d_Mo_classLine_508 ?_
                          refine lv_iload G.1 G.2.1 d_Mo_classLine_511 (lv_at hl 0 rfl) ?_
                          refine lv_iconst (v := 0) G.1 G.2.1 d_Mo_classLine_513 (by decide) ?_
                          refine uiast G hP hD hS (kdp c_93 rfl) (typ c_93 rfl) h d_Mo_classLine_514 (fun s_94 H locs h hP hD hS => ?_)
                          refine W.eq (g2 := F0 m 515 ls []) rfl ?_
                          refine lv_aload_n G.1 G.2.1 d_Mo_classLine_515 rfl (lv_at hl 1 rfl) ?_
                          obtain ⟨b_95, e_96, c_97, h⟩ := h
                          refine ugf (v := .ref (ad b_95)) G hP h_a0 iMo rfl 45 (by decide) rfl q3109 rfl (by show va_rf ((sO s_94 a0 45).map ad) = _; rw [e_96]; rfl) d_Mo_classLine_516 ?_
                          refine lv_dup G.1 G.2.1 d_Mo_classLine_519 rfl ?_
                          refine ugfN (v := .int (sV s_94 b_95 2)) G hP c_97 iMw rfl 2 (by decide) rfl q2708 rfl rfl d_Mo_classLine_520 ?_
                          refine lv_iconst (v := 1) G.1 G.2.1 d_Mo_classLine_523 (by decide) ?_
                          refine lv_iadd G.1 G.2.1 d_Mo_classLine_524 ?_
                          refine upfN G hP hD hS h 2 putV c_97 iMw tMw tMw_ok nMw rfl (by decide) rfl q2708 rfl rfl fV rfl rfl d_Mo_classLine_525 (fun s_98 H locs h hP hD hS => ?_)
                          refine lv_aload_n G.1 G.2.1 d_Mo_classLine_528 rfl (lv_at hl 1 rfl) ?_
                          refine lv_iload G.1 G.2.1 d_Mo_classLine_529 (lv_at hl 0 rfl) ?_
                          refine upf G hP hD hS h 53 putV h_a0 iMo tMo tMo_ok nMo rfl (by decide) rfl q3117 rfl rfl fV rfl rfl d_Mo_classLine_531 (fun s_99 H locs h hP hD hS => ?_)
                          refine lv_aload_n G.1 G.2.1 d_Mo_classLine_534 rfl (lv_at hl 1 rfl) ?_
                          refine lv_iconst (v := 1) G.1 G.2.1 d_Mo_classLine_535 (by decide) ?_
                          refine W.eq (g2 := F0 m 536 ls [.int 1, .ref (ad a0)]) rfl ?_
                          refine upf G hP hD hS h 52 putV h_a0 iMo tMo tMo_ok nMo rfl (by decide) rfl q3116 rfl rfl fV rfl rfl d_Mo_classLine_536 (fun s_100 H locs h hP hD hS => ?_)
                          exact hret (y_53, s_100, d_j377 + d_54, e_j377 + e_55) _ _ _ _ _ ls h hP hD hS (Nat.le_refl _) (Nat.le_refl _) hd.1 hd.2 d_Mo_classLine_539
                        · skip
                          have h := h.2 c391
                          exact hret (y_53, s_52, d_j377 + d_54, e_j377 + e_55) _ _ _ _ _ ls h hP hD hS (Nat.le_refl _) (Nat.le_refl _) hd.1 hd.2 d_Mo_classLine_394
                      refine W.eq (g2 := F0 m 369 ls [.int 4, .int x5h240, .int 12, .ref (ad a0)]) rfl ?_
                      refine lv_icmp_le (tgt := 376) G.1 G.2.1 d_Mo_classLine_369 (by decide) (fun c369 => ?_) (fun c369 => ?_)
                      · skip
                        have h := h.1 c369
                        refine lv_iconst (v := 0) G.1 G.2.1 d_Mo_classLine_376 (by decide) ?_
                        exact J_377 y_h240 s_h240 d_h240 e_h240 x1h240 x3h240 x4h240 x5h240 12 0 H locs h hP hD hS ls (lv_sub hl [0, 1, 2, 3, 4] rfl)
                      · skip
                        have h := h.2 c369
                        refine lv_iconst (v := 1) G.1 G.2.1 d_Mo_classLine_372 (by decide) ?_
                        refine lv_goto (tgt := 377) G.1 G.2.1 d_Mo_classLine_373 (by decide) ?_
                        exact J_377 y_h240 s_h240 d_h240 e_h240 x1h240 x3h240 x4h240 x5h240 12 1 H locs h hP hD hS ls (lv_sub hl [0, 1, 2, 3, 4] rfl)
                    · skip
                      have h := h.2 c251
                      refine lv_aload_n G.1 G.2.1 d_Mo_classLine_254 rfl (lv_at hl 0 rfl) ?_
                      refine lv_dup G.1 G.2.1 d_Mo_classLine_255 rfl ?_
                      refine ugf (v := .int (sV s_h240 a0 43)) G hP h_a0 iMo rfl 43 (by decide) rfl q3107 rfl rfl d_Mo_classLine_256 ?_
                      refine lv_iconst (v := 1) G.1 G.2.1 d_Mo_classLine_259 (by decide) ?_
                      refine W.eq (g2 := F0 m 260 ls [.int 1, .int (sV s_h240 a0 43), .ref (ad a0)]) rfl ?_
                      refine lv_iadd G.1 G.2.1 d_Mo_classLine_260 ?_
                      refine upf G hP hD hS h 43 putV h_a0 iMo tMo tMo_ok nMo rfl (by decide) rfl q3107 rfl rfl fV rfl rfl d_Mo_classLine_261 (fun s_101 H locs h hP hD hS => ?_)
                      refine lv_aload_n G.1 G.2.1 d_Mo_classLine_264 rfl (lv_at hl 0 rfl) ?_
                      obtain ⟨mc_107, ms_108, hr_109, h⟩ := h
                      refine uxVi (As := []) (rest := []) G hP hD hS (cx_Mo_className l D g ad mc_107 ms_108 y_h240 _ _ s_101 a0 H.size (us H) h_a0 h) (fun _ h => absurd h List.not_mem_nil) w9_Mo_className q3555 ⟨Nat.le_of_ble_eq_true rfl, Nat.le_of_ble_eq_true rfl⟩ rfl rfl h_a0 (q := (RMo, TMo, 131)) rfl rfl hl.1 rfl (Nat.le_of_ble_eq_true rfl) rfl hr_109 d_Mo_classLine_265 (fun y_104 s_103 d_105 e_106 H locs q9 ce h hP hD hS hce hcv hcl => ?_) (fun r_102 y_104 s_103 d_105 e_106 H locs h hP hD hS => ?_)
                      · skip
                        obtain ⟨hd, h⟩ := h
                        exact hretX h hP hD hS hd.1 hd.2 hce hcv hcl
                      obtain ⟨hd, h⟩ := h
                      refine lv_istore (lv' := [(6, .int r_102), (0, .ref (ad a0)), (1, .int x1h240), (3, .int x3h240), (4, .int x4h240), (5, .int x5h240)]) G.1 G.2.1 d_Mo_classLine_268 hl (by decide) rfl (fun ls hl => ?_)
                      refine lv_aload_n G.1 G.2.1 d_Mo_classLine_270 rfl (lv_at hl 1 rfl) ?_
                      refine lv_bipush (v := 11) G.1 G.2.1 d_Mo_classLine_271 (by decide) ?_
                      refine lv_iload G.1 G.2.1 d_Mo_classLine_273 (lv_at hl 0 rfl) ?_
                      refine lv_iload_n G.1 G.2.1 d_Mo_classLine_275 rfl (lv_at hl 3 rfl) ?_
                      have J_291 : ∀ (y_j291 : Ly) (s_j291 : St) (d_j291 e_j291 : Nat) (x1j291 : Int32) (x3j291 : Int32) (x4j291 : Int32) (x5j291 : Int32) (x6j291 : Int32) (z1j291 : Int32) (z2j291 : Int32) (H : Heap) (locs : List Loc), wja_Mo_classLine_291 mc ms Post PX K_240 a0 y_j291 s_j291 d_j291 e_j291 x1j291 x3j291 x4j291 x5j291 x6j291 z1j291 z2j291 → va_P D CL (ws g ad y_j291 s_j291) H → va_D A (ws g ad y_j291 s_j291) → va_S A s.heap H locs → ∀ ls, lv_has ls 8 [(0, .ref (ad a0)), (1, .int x1j291), (3, .int x3j291), (4, .int x4j291), (5, .int x5j291), (6, .int x6j291)] → W p l e (ra_Mo_classLine mc ms) s m args below meth c H locs d_j291 e_j291 Q (F0 m 291 ls [.int z2j291, .int z1j291, .ref (ad a0)]) := by
                        intro y_j291 s_j291 d_j291 e_j291 x1j291 x3j291 x4j291 x5j291 x6j291 z1j291 z2j291 H locs h hP hD hS ls hl
                        unfold wja_Mo_classLine_291 at h
                        obtain ⟨hd, h⟩ := h
                        refine ucVv (As := [.int z1j291, .int z2j291]) (rest := []) G hP hD hS (cu_Mo_asks l D g ad y_j291 _ s_j291 a0 z1j291 z2j291 H.size h_a0 h) w9_Mo_asks q3575 ⟨Nat.le_of_ble_eq_true rfl, Nat.le_of_ble_eq_true rfl⟩ rfl rfl h_a0 (q := (RMo, TMo, 131)) rfl rfl hl.1 rfl (Nat.le_of_ble_eq_true rfl) rfl hd d_Mo_classLine_291 (fun s_111 H locs h hP hD hS => ?_)
                        refine lv_iconst (v := 0) G.1 G.2.1 d_Mo_classLine_294 (by decide) ?_
                        refine lv_istore (lv' := [(7, .int 0), (0, .ref (ad a0)), (1, .int x1j291), (3, .int x3j291), (4, .int x4j291), (5, .int x5j291), (6, .int x6j291)]) G.1 G.2.1 d_Mo_classLine_295 hl (by decide) rfl (fun ls hl => ?_)
                        unfold wla_Mo_classLine_297 at h
                        obtain ⟨I_297, μ_297, hI_297, hB_297⟩ := h
                        have L_297 : ∀ (n_297 : Nat) (y_h297 : Ly) (s_h297 : St) (d_h297 e_h297 : Nat) (x1h297 : Int32) (x3h297 : Int32) (x4h297 : Int32) (x5h297 : Int32) (x6h297 : Int32) (x7h297 : Int32), μ_297 y_h297 s_h297 d_h297 e_h297 x1h297 x3h297 x4h297 x5h297 x6h297 x7h297 < n_297 → I_297 y_h297 s_h297 d_h297 e_h297 x1h297 x3h297 x4h297 x5h297 x6h297 x7h297 → ∀ (H : Heap) (locs : List Loc), va_P D CL (ws g ad y_h297 s_h297) H → va_D A (ws g ad y_h297 s_h297) → va_S A s.heap H locs → ∀ ls, lv_has ls 8 [(0, .ref (ad a0)), (1, .int x1h297), (3, .int x3h297), (4, .int x4h297), (5, .int x5h297), (6, .int x6h297), (7, .int x7h297)] → W p l e (ra_Mo_classLine mc ms) s m args below meth c H locs d_h297 e_h297 Q (F0 m 297 ls []) := by
                          intro n_297
                          induction n_297 with
                          | zero => intro y_h297 s_h297 d_h297 e_h297 x1h297 x3h297 x4h297 x5h297 x6h297 x7h297 hμ; exact absurd hμ (Nat.not_lt_zero _)
                          | succ n_297 ih_297 =>
                            intro y_h297 s_h297 d_h297 e_h297 x1h297 x3h297 x4h297 x5h297 x6h297 x7h297 hμ_297 hJ H locs hP hD hS ls hl
                            obtain ⟨K_297, hK_297, h⟩ : ∃ K : Ly → St → Nat → Nat → Int32 → Int32 → Int32 → Int32 → Int32 → Int32 → Prop, (∀ z1 z2 z3 z4 (t0 : Int32) (t1 : Int32) (t2 : Int32) (t3 : Int32) (t4 : Int32) (t5 : Int32), K z1 z2 z3 z4 t0 t1 t2 t3 t4 t5 → I_297 z1 z2 z3 z4 t0 t1 t2 t3 t4 t5 ∧ μ_297 z1 z2 z3 z4 t0 t1 t2 t3 t4 t5 < μ_297 y_h297 s_h297 d_h297 e_h297 x1h297 x3h297 x4h297 x5h297 x6h297 x7h297) ∧ wba_Mo_classLine_297 mc ms Post PX K_240 K a0 y_h297 s_h297 d_h297 e_h297 x1h297 x3h297 x4h297 x5h297 x6h297 x7h297 := ⟨_, fun _ _ _ _ _ _ _ _ _ _ h => h, hB_297 y_h297 s_h297 d_h297 e_h297 x1h297 x3h297 x4h297 x5h297 x6h297 x7h297 hJ⟩
                            unfold wba_Mo_classLine_297 at h
                            obtain ⟨hd, h⟩ := h
                            refine lv_iload G.1 G.2.1 d_Mo_classLine_297 (lv_at hl 6 rfl) ?_
                            refine lv_iload G.1 G.2.1 d_Mo_classLine_299 (lv_at hl 4 rfl) ?_
                            refine lv_icmp_ge (tgt := 333) G.1 G.2.1 d_Mo_classLine_301 (by decide) (fun c301 => ?_) (fun c301 => ?_)
                            · skip
                              have h := h.1 c301
                              refine lv_aload_n G.1 G.2.1 d_Mo_classLine_333 rfl (lv_at hl 0 rfl) ?_
                              refine lv_aload_n G.1 G.2.1 d_Mo_classLine_334 rfl (lv_at hl 0 rfl) ?_
                              refine ugf (v := .ref (yP y_h297 a0 57)) G hP h_a0 iMo rfl 57 (by decide) rfl q3121 rfl rfl d_Mo_classLine_335 ?_
                              refine lv_iload G.1 G.2.1 d_Mo_classLine_338 (lv_at hl 4 rfl) ?_
                              refine lv_iconst (v := 1) G.1 G.2.1 d_Mo_classLine_340 (by decide) ?_
                              refine lv_iadd G.1 G.2.1 d_Mo_classLine_341 ?_
                              refine uroom (C := RMo) (T := TMo) (N := 131) G hP hD hS (fun ws0 q1 q t n f sz he ht hn => c_Mo_room_k l D g ws0 q1 q t n f sz he ht hn) (fun ws0 q1 q t n f sz he hn ht hf => c_Mo_room_g l D g ws0 q1 q t n f sz he hn ht hf) w9_Mo_room q2596 ⟨Nat.le_of_ble_eq_true rfl, Nat.le_of_ble_eq_true rfl⟩ (Nat.le_refl _) (Nat.le_refl _) hd (by decide) h_a0 rfl rfl iMo tMo tMo_ok nMo rfl (by decide) q3121 rfl rfl (fun _ => rfl) (fun _ => rfl) hl.1 (Nat.le_of_ble_eq_true rfl) h d_Mo_classLine_342 d_Mo_classLine_345 (fun y_112 s_113 d_114 e_115 H locs h hP hD hS => ?_)
                              have hl := lv_sub (l' := [(0, .ref (ad a0)), (1, .int x1h297), (3, .int x3h297), (4, .int x4h297), (5, .int x5h297), (6, .int x6h297)]) hl [0, 1, 2, 3, 4, 5] rfl
                              obtain ⟨hd, h⟩ := h
                              refine lv_aload_n G.1 G.2.1 d_Mo_classLine_348 rfl (lv_at hl 0 rfl) ?_
                              refine W.eq (g2 := F0 m 349 ls [.ref (ad a0)]) rfl ?_
                              refine ugf (v := .ref (yP y_112 a0 57)) G hP h_a0 iMo rfl 57 (by decide) rfl q3121 rfl rfl d_Mo_classLine_349 ?_
                              refine lv_iload G.1 G.2.1 d_Mo_classLine_352 (lv_at hl 4 rfl) ?_
                              refine lv_iload G.1 G.2.1 d_Mo_classLine_354 (lv_at hl 5 rfl) ?_
                              refine uiast G hP hD hS (kdp h_a0 rfl) (typ h_a0 rfl) h d_Mo_classLine_356 (fun s_116 H locs h hP hD hS => ?_)
                              refine lv_iinc (v := x5h297 + 1) (lv' := [(5, .int (x5h297 + 1)), (0, .ref (ad a0)), (1, .int x1h297), (3, .int x3h297), (4, .int x4h297), (6, .int x6h297)]) G.1 G.2.1 d_Mo_classLine_357 hl (k := 4) rfl rfl (by decide) rfl (fun ls hl => ?_)
                              refine lv_goto (tgt := 240) G.1 G.2.1 d_Mo_classLine_360 (by decide) ?_
                              have h := hK_240 y_112 s_116 d_114 e_115 x1h297 x3h297 x4h297 (x5h297 + 1) h
                              exact ih_240 y_112 s_116 d_114 e_115 x1h297 x3h297 x4h297 (x5h297 + 1) (Nat.lt_of_lt_of_le h.2 (Nat.le_of_lt_succ hμ_240)) h.1 H locs hP hD hS ls (lv_sub hl [1, 2, 3, 4, 0] rfl)
                            · skip
                              have h := h.2 c301
                              refine lv_aload_n G.1 G.2.1 d_Mo_classLine_304 rfl (lv_at hl 0 rfl) ?_
                              refine lv_bipush (v := 11) G.1 G.2.1 d_Mo_classLine_305 (by decide) ?_
                              refine lv_aload_n G.1 G.2.1 d_Mo_classLine_307 rfl (lv_at hl 0 rfl) ?_
                              refine ugf (v := .ref (yP y_h297 a0 57)) G hP h_a0 iMo rfl 57 (by decide) rfl q3121 rfl rfl d_Mo_classLine_308 ?_
                              refine lv_iload G.1 G.2.1 d_Mo_classLine_311 (lv_at hl 6 rfl) ?_
                              refine uiald G hP (kdp h_a0 rfl) (typ h_a0 rfl) h d_Mo_classLine_313 (fun x_117 h => ?_)
                              refine lv_iload G.1 G.2.1 d_Mo_classLine_314 (lv_at hl 5 rfl) ?_
                              have J_324 : ∀ (y_j324 : Ly) (s_j324 : St) (d_j324 e_j324 : Nat) (x1j324 : Int32) (x3j324 : Int32) (x4j324 : Int32) (x5j324 : Int32) (x6j324 : Int32) (x7j324 : Int32) (z1j324 : Int32) (z2j324 : Int32) (H : Heap) (locs : List Loc), wja_Mo_classLine_324 mc ms Post PX K_240 K_297 a0 y_j324 s_j324 d_j324 e_j324 x1j324 x3j324 x4j324 x5j324 x6j324 x7j324 z1j324 z2j324 → va_P D CL (ws g ad y_j324 s_j324) H → va_D A (ws g ad y_j324 s_j324) → va_S A s.heap H locs → ∀ ls, lv_has ls 8 [(0, .ref (ad a0)), (1, .int x1j324), (3, .int x3j324), (4, .int x4j324), (5, .int x5j324), (6, .int x6j324), (7, .int x7j324)] → W p l e (ra_Mo_classLine mc ms) s m args below meth c H locs d_j324 e_j324 Q (F0 m 324 ls [.int z2j324, .int z1j324, .ref (ad a0)]) := by
                                intro y_j324 s_j324 d_j324 e_j324 x1j324 x3j324 x4j324 x5j324 x6j324 x7j324 z1j324 z2j324 H locs h hP hD hS ls hl
                                unfold wja_Mo_classLine_324 at h
                                obtain ⟨hd, h⟩ := h
                                refine ucVv (As := [.int z1j324, .int z2j324]) (rest := []) G hP hD hS (cu_Mo_asks l D g ad y_j324 _ s_j324 a0 z1j324 z2j324 H.size h_a0 h) w9_Mo_asks q3575 ⟨Nat.le_of_ble_eq_true rfl, Nat.le_of_ble_eq_true rfl⟩ rfl rfl h_a0 (q := (RMo, TMo, 131)) rfl rfl hl.1 rfl (Nat.le_of_ble_eq_true rfl) rfl hd d_Mo_classLine_324 (fun s_119 H locs h hP hD hS => ?_)
                                refine lv_iinc (v := x7j324 + 1) (lv' := [(7, .int (x7j324 + 1)), (0, .ref (ad a0)), (1, .int x1j324), (3, .int x3j324), (4, .int x4j324), (5, .int x5j324), (6, .int x6j324)]) G.1 G.2.1 d_Mo_classLine_327 hl (k := 6) rfl rfl (by decide) rfl (fun ls hl => ?_)
                                refine lv_goto (tgt := 297) G.1 G.2.1 d_Mo_classLine_330 (by decide) ?_
                                have h := hK_297 y_j324 s_119 d_j324 e_j324 x1j324 x3j324 x4j324 x5j324 x6j324 (x7j324 + 1) h
                                exact ih_297 y_j324 s_119 d_j324 e_j324 x1j324 x3j324 x4j324 x5j324 x6j324 (x7j324 + 1) (Nat.lt_of_lt_of_le h.2 (Nat.le_of_lt_succ hμ_297)) h.1 H locs hP hD hS ls (lv_sub hl [1, 2, 3, 4, 5, 6, 0] rfl)
                              refine lv_icmp_ne (tgt := 323) G.1 G.2.1 d_Mo_classLine_316 (by decide) (fun c316 => ?_) (fun c316 => ?_)
                              · skip
                                have h := h.1 c316
                                refine W.eq (g2 := F0 m 323 ls [.int 11, .ref (ad a0)]) rfl ?_
                                refine lv_iconst (v := 0) G.1 G.2.1 d_Mo_classLine_323 (by decide) ?_
                                exact J_324 y_h297 s_h297 d_h297 e_h297 x1h297 x3h297 x4h297 x5h297 x6h297 x7h297 11 0 H locs h hP hD hS ls (lv_sub hl [0, 1, 2, 3, 4, 5, 6] rfl)
                              · skip
                                have h := h.2 c316
                                refine W.eq (g2 := F0 m 319 ls [.int 11, .ref (ad a0)]) rfl ?_
                                refine lv_iconst (v := 1) G.1 G.2.1 d_Mo_classLine_319 (by decide) ?_
                                refine lv_goto (tgt := 324) G.1 G.2.1 d_Mo_classLine_320 (by decide) ?_
                                exact J_324 y_h297 s_h297 d_h297 e_h297 x1h297 x3h297 x4h297 x5h297 x6h297 x7h297 11 1 H locs h hP hD hS ls (lv_sub hl [0, 1, 2, 3, 4, 5, 6] rfl)
                        exact L_297 _ y_j291 s_111 d_j291 e_j291 x1j291 x3j291 x4j291 x5j291 x6j291 0 (Nat.lt_succ_self _) hI_297 H locs hP hD hS ls (lv_sub hl [1, 2, 3, 4, 5, 6, 0] rfl)
                      have J_286 : ∀ (y_j286 : Ly) (s_j286 : St) (d_j286 e_j286 : Nat) (x1j286 : Int32) (x3j286 : Int32) (x4j286 : Int32) (x5j286 : Int32) (x6j286 : Int32) (z1j286 : Int32) (H : Heap) (locs : List Loc), wja_Mo_classLine_286 mc ms Post PX K_240 a0 y_j286 s_j286 d_j286 e_j286 x1j286 x3j286 x4j286 x5j286 x6j286 z1j286 → va_P D CL (ws g ad y_j286 s_j286) H → va_D A (ws g ad y_j286 s_j286) → va_S A s.heap H locs → ∀ ls, lv_has ls 8 [(0, .ref (ad a0)), (1, .int x1j286), (3, .int x3j286), (4, .int x4j286), (5, .int x5j286), (6, .int x6j286)] → W p l e (ra_Mo_classLine mc ms) s m args below meth c H locs d_j286 e_j286 Q (F0 m 286 ls [.int z1j286, .ref (ad a0)]) := by
                        intro y_j286 s_j286 d_j286 e_j286 x1j286 x3j286 x4j286 x5j286 x6j286 z1j286 H locs h hP hD hS ls hl
                        unfold wja_Mo_classLine_286 at h
                        obtain ⟨hd, h⟩ := h
                        refine lv_iconst (v := 1) G.1 G.2.1 d_Mo_classLine_286 (by decide) ?_
                        refine lv_goto (tgt := 291) G.1 G.2.1 d_Mo_classLine_287 (by decide) ?_
                        exact J_291 y_j286 s_j286 d_j286 e_j286 x1j286 x3j286 x4j286 x5j286 x6j286 z1j286 1 H locs h hP hD hS ls (lv_sub hl [0, 1, 2, 3, 4, 5] rfl)
                      refine lv_icmp_eq (tgt := 286) G.1 G.2.1 d_Mo_classLine_276 (by decide) (fun c276 => ?_) (fun c276 => ?_)
                      · skip
                        have h := h.1 c276
                        exact J_286 y_104 s_103 (d_h240 + d_105) (e_h240 + e_106) x1h240 x3h240 x4h240 x5h240 r_102 11 H locs h hP hD hS ls (lv_sub hl [1, 2, 3, 4, 5, 0] rfl)
                      · skip
                        have h := h.2 c276
                        refine lv_iload G.1 G.2.1 d_Mo_classLine_279 (lv_at hl 0 rfl) ?_
                        refine lv_iload G.1 G.2.1 d_Mo_classLine_281 (lv_at hl 4 rfl) ?_
                        refine W.eq (g2 := F0 m 283 ls [.int x4h240, .int r_102, .int 11, .ref (ad a0)]) rfl ?_
                        refine lv_icmp_ne (tgt := 290) G.1 G.2.1 d_Mo_classLine_283 (by decide) (fun c283 => ?_) (fun c283 => ?_)
                        · skip
                          have h := h.1 c283
                          refine lv_iconst (v := 0) G.1 G.2.1 d_Mo_classLine_290 (by decide) ?_
                          exact J_291 y_104 s_103 (d_h240 + d_105) (e_h240 + e_106) x1h240 x3h240 x4h240 x5h240 r_102 11 0 H locs h hP hD hS ls (lv_sub hl [1, 2, 3, 4, 5, 0] rfl)
                        · skip
                          have h := h.2 c283
                          exact J_286 y_104 s_103 (d_h240 + d_105) (e_h240 + e_106) x1h240 x3h240 x4h240 x5h240 r_102 11 H locs h hP hD hS ls (lv_sub hl [1, 2, 3, 4, 5, 0] rfl)
                exact L_240 _ y_j234 s_47 d_j234 e_j234 x1j234 x3j234 x4j234 0 (Nat.lt_succ_self _) hI_240 H locs hP hD hS ls (lv_sub hl [1, 2, 3, 4, 0] rfl)
              refine lv_icmp_ne (tgt := 233) G.1 G.2.1 d_Mo_classLine_226 (by decide) (fun c226 => ?_) (fun c226 => ?_)
              · skip
                have h := h.1 c226
                refine lv_iconst (v := 0) G.1 G.2.1 d_Mo_classLine_233 (by decide) ?_
                exact J_234 y_j211 s_42 d_j211 e_j211 x1j211 x3j211 x4j211 12 0 H locs h hP hD hS ls (lv_sub hl [0, 1, 2, 3] rfl)
              · skip
                have h := h.2 c226
                refine lv_iconst (v := 1) G.1 G.2.1 d_Mo_classLine_229 (by decide) ?_
                refine lv_goto (tgt := 234) G.1 G.2.1 d_Mo_classLine_230 (by decide) ?_
                exact J_234 y_j211 s_42 d_j211 e_j211 x1j211 x3j211 x4j211 12 1 H locs h hP hD hS ls (lv_sub hl [0, 1, 2, 3] rfl)
            refine lv_icmp_ne (tgt := 210) G.1 G.2.1 d_Mo_classLine_203 (by decide) (fun c203 => ?_) (fun c203 => ?_)
            · skip
              have h := h.1 c203
              refine lv_iconst (v := 0) G.1 G.2.1 d_Mo_classLine_210 (by decide) ?_
              exact J_211 y_j194 s_40 d_j194 e_j194 x1j194 x3j194 x4j194 11 0 H locs h hP hD hS ls (lv_sub hl [0, 1, 2, 3] rfl)
            · skip
              have h := h.2 c203
              refine lv_iconst (v := 1) G.1 G.2.1 d_Mo_classLine_206 (by decide) ?_
              refine lv_goto (tgt := 211) G.1 G.2.1 d_Mo_classLine_207 (by decide) ?_
              exact J_211 y_j194 s_40 d_j194 e_j194 x1j194 x3j194 x4j194 11 1 H locs h hP hD hS ls (lv_sub hl [0, 1, 2, 3] rfl)
          have J_193 : ∀ (y_j193 : Ly) (s_j193 : St) (d_j193 e_j193 : Nat) (x1j193 : Int32) (x3j193 : Int32) (x4j193 : Int32) (z1j193 : Int32) (H : Heap) (locs : List Loc), wja_Mo_classLine_193 mc ms Post PX a0 y_j193 s_j193 d_j193 e_j193 x1j193 x3j193 x4j193 z1j193 → va_P D CL (ws g ad y_j193 s_j193) H → va_D A (ws g ad y_j193 s_j193) → va_S A s.heap H locs → ∀ ls, lv_has ls 8 [(0, .ref (ad a0)), (1, .int x1j193), (3, .int x3j193), (4, .int x4j193)] → W p l e (ra_Mo_classLine mc ms) s m args below meth c H locs d_j193 e_j193 Q (F0 m 193 ls [.int z1j193, .ref (ad a0)]) := by
            intro y_j193 s_j193 d_j193 e_j193 x1j193 x3j193 x4j193 z1j193 H locs h hP hD hS ls hl
            unfold wja_Mo_classLine_193 at h
            obtain ⟨hd, h⟩ := h
            refine lv_iconst (v := 0) G.1 G.2.1 d_Mo_classLine_193 (by decide) ?_
            exact J_194 y_j193 s_j193 d_j193 e_j193 x1j193 x3j193 x4j193 z1j193 0 H locs h hP hD hS ls (lv_sub hl [0, 1, 2, 3] rfl)
          refine lv_if_ne (tgt := 193) G.1 G.2.1 d_Mo_classLine_154 (by decide) (fun c154 => ?_) (fun c154 => ?_)
          · skip
            have h := h.1 c154
            exact J_193 y_j144 s_38 d_j144 e_j144 x1j144 x3j144 x4j144 4 H locs h hP hD hS ls (lv_sub hl [0, 1, 2, 3] rfl)
          · skip
            have h := h.2 c154
            refine lv_iload_n G.1 G.2.1 d_Mo_classLine_157 rfl (lv_at hl 1 rfl) ?_
            refine lv_iconst (v := 1) G.1 G.2.1 d_Mo_classLine_158 (by decide) ?_
            refine lv_iand G.1 G.2.1 d_Mo_classLine_159 ?_
            have J_189 : ∀ (y_j189 : Ly) (s_j189 : St) (d_j189 e_j189 : Nat) (x1j189 : Int32) (x3j189 : Int32) (x4j189 : Int32) (z1j189 : Int32) (H : Heap) (locs : List Loc), wja_Mo_classLine_189 mc ms Post PX a0 y_j189 s_j189 d_j189 e_j189 x1j189 x3j189 x4j189 z1j189 → va_P D CL (ws g ad y_j189 s_j189) H → va_D A (ws g ad y_j189 s_j189) → va_S A s.heap H locs → ∀ ls, lv_has ls 8 [(0, .ref (ad a0)), (1, .int x1j189), (3, .int x3j189), (4, .int x4j189)] → W p l e (ra_Mo_classLine mc ms) s m args below meth c H locs d_j189 e_j189 Q (F0 m 189 ls [.int z1j189, .ref (ad a0)]) := by
              intro y_j189 s_j189 d_j189 e_j189 x1j189 x3j189 x4j189 z1j189 H locs h hP hD hS ls hl
              unfold wja_Mo_classLine_189 at h
              obtain ⟨hd, h⟩ := h
              refine lv_iconst (v := 1) G.1 G.2.1 d_Mo_classLine_189 (by decide) ?_
              refine lv_goto (tgt := 194) G.1 G.2.1 d_Mo_classLine_190 (by decide) ?_
              exact J_194 y_j189 s_j189 d_j189 e_j189 x1j189 x3j189 x4j189 z1j189 1 H locs h hP hD hS ls (lv_sub hl [0, 1, 2, 3] rfl)
            have J_168 : ∀ (y_j168 : Ly) (s_j168 : St) (d_j168 e_j168 : Nat) (x1j168 : Int32) (x3j168 : Int32) (x4j168 : Int32) (z1j168 : Int32) (H : Heap) (locs : List Loc), wja_Mo_classLine_168 mc ms Post PX a0 y_j168 s_j168 d_j168 e_j168 x1j168 x3j168 x4j168 z1j168 → va_P D CL (ws g ad y_j168 s_j168) H → va_D A (ws g ad y_j168 s_j168) → va_S A s.heap H locs → ∀ ls, lv_has ls 8 [(0, .ref (ad a0)), (1, .int x1j168), (3, .int x3j168), (4, .int x4j168)] → W p l e (ra_Mo_classLine mc ms) s m args below meth c H locs d_j168 e_j168 Q (F0 m 168 ls [.int z1j168, .ref (ad a0)]) := by
              intro y_j168 s_j168 d_j168 e_j168 x1j168 x3j168 x4j168 z1j168 H locs h hP hD hS ls hl
              unfold wja_Mo_classLine_168 at h
              obtain ⟨hd, h⟩ := h
              refine lv_iload_n G.1 G.2.1 d_Mo_classLine_168 rfl (lv_at hl 1 rfl) ?_
              refine lv_bipush (v := 6) G.1 G.2.1 d_Mo_classLine_169 (by decide) ?_
              refine lv_icmp_eq (tgt := 189) G.1 G.2.1 d_Mo_classLine_171 (by decide) (fun c171 => ?_) (fun c171 => ?_)
              · skip
                have h := h.1 c171
                exact J_189 y_j168 s_j168 d_j168 e_j168 x1j168 x3j168 x4j168 z1j168 H locs h hP hD hS ls (lv_sub hl [0, 1, 2, 3] rfl)
              · skip
                have h := h.2 c171
                refine lv_iload_n G.1 G.2.1 d_Mo_classLine_174 rfl (lv_at hl 1 rfl) ?_
                refine lv_iconst (v := 4) G.1 G.2.1 d_Mo_classLine_175 (by decide) ?_
                refine lv_iand G.1 G.2.1 d_Mo_classLine_176 ?_
                refine lv_if_eq (tgt := 193) G.1 G.2.1 d_Mo_classLine_177 (by decide) (fun c177 => ?_) (fun c177 => ?_)
                · skip
                  have h := h.1 c177
                  exact J_193 y_j168 s_j168 d_j168 e_j168 x1j168 x3j168 x4j168 z1j168 H locs h hP hD hS ls (lv_sub hl [0, 1, 2, 3] rfl)
                · skip
                  have h := h.2 c177
                  refine lv_iload G.1 G.2.1 d_Mo_classLine_180 (lv_at hl 3 rfl) ?_
                  refine lv_aload_n G.1 G.2.1 d_Mo_classLine_182 rfl (lv_at hl 0 rfl) ?_
                  refine ugf (v := .int (sV s_j168 a0 8)) G hP h_a0 iMo rfl 8 (by decide) rfl q3072 rfl rfl d_Mo_classLine_183 ?_
                  refine lv_icmp_eq (tgt := 193) G.1 G.2.1 d_Mo_classLine_186 (by decide) (fun c186 => ?_) (fun c186 => ?_)
                  · skip
                    have h := h.1 c186
                    exact J_193 y_j168 s_j168 d_j168 e_j168 x1j168 x3j168 x4j168 z1j168 H locs h hP hD hS ls (lv_sub hl [0, 1, 2, 3] rfl)
                  · skip
                    have h := h.2 c186
                    exact J_189 y_j168 s_j168 d_j168 e_j168 x1j168 x3j168 x4j168 z1j168 H locs h hP hD hS ls (lv_sub hl [0, 1, 2, 3] rfl)
            refine lv_if_eq (tgt := 168) G.1 G.2.1 d_Mo_classLine_160 (by decide) (fun c160 => ?_) (fun c160 => ?_)
            · skip
              have h := h.1 c160
              exact J_168 y_j144 s_38 d_j144 e_j144 x1j144 x3j144 x4j144 4 H locs h hP hD hS ls (lv_sub hl [0, 1, 2, 3] rfl)
            · skip
              have h := h.2 c160
              refine W.eq (g2 := F0 m 163 ls [.int 4, .ref (ad a0)]) rfl ?_
              refine lv_iload_n G.1 G.2.1 d_Mo_classLine_163 rfl (lv_at hl 1 rfl) ?_
              refine lv_iconst (v := 1) G.1 G.2.1 d_Mo_classLine_164 (by decide) ?_
              refine lv_icmp_ne (tgt := 189) G.1 G.2.1 d_Mo_classLine_165 (by decide) (fun c165 => ?_) (fun c165 => ?_)
              · skip
                have h := h.1 c165
                exact J_189 y_j144 s_38 d_j144 e_j144 x1j144 x3j144 x4j144 4 H locs h hP hD hS ls (lv_sub hl [0, 1, 2, 3] rfl)
              · skip
                have h := h.2 c165
                exact J_168 y_j144 s_38 d_j144 e_j144 x1j144 x3j144 x4j144 4 H locs h hP hD hS ls (lv_sub hl [0, 1, 2, 3] rfl)
        refine lv_if_lt (tgt := 143) G.1 G.2.1 d_Mo_classLine_136 (by decide) (fun c136 => ?_) (fun c136 => ?_)
        · skip
          have h := h.1 c136
          refine lv_iconst (v := 0) G.1 G.2.1 d_Mo_classLine_143 (by decide) ?_
          exact J_144 y_27 s_34 (d_h4 + d_4 + d_12 + d_20 + d_28) (e_h4 + e_5 + e_13 + e_21 + e_29) x1h4 r_9 r_25 2 0 H locs h hP hD hS ls (lv_sub hl [2, 3, 1, 0] rfl)
        · skip
          have h := h.2 c136
          refine lv_iconst (v := 1) G.1 G.2.1 d_Mo_classLine_139 (by decide) ?_
          refine lv_goto (tgt := 144) G.1 G.2.1 d_Mo_classLine_140 (by decide) ?_
          exact J_144 y_27 s_34 (d_h4 + d_4 + d_12 + d_20 + d_28) (e_h4 + e_5 + e_13 + e_21 + e_29) x1h4 r_9 r_25 2 1 H locs h hP hD hS ls (lv_sub hl [2, 3, 1, 0] rfl)
      · skip
        have h := h.2 c5
        refine lv_aload_n G.1 G.2.1 d_Mo_classLine_8 rfl (lv_at hl 0 rfl) ?_
        refine lv_aload_n G.1 G.2.1 d_Mo_classLine_9 rfl (lv_at hl 0 rfl) ?_
        refine ugf (v := .int (sV s_h4 a0 10)) G hP h_a0 iMo rfl 10 (by decide) rfl q3074 rfl rfl d_Mo_classLine_10 ?_
        refine ucVi (As := [.int (sV s_h4 a0 10)]) (rest := []) G hP hD hS (cu_Mo_isWord l D g ad y_h4 _ s_h4 a0 (sV s_h4 a0 10) H.size h_a0 h) w9_Mo_isWord q3522 ⟨Nat.le_of_ble_eq_true rfl, Nat.le_of_ble_eq_true rfl⟩ rfl rfl h_a0 (q := (RMo, TMo, 131)) rfl rfl hl.1 rfl (Nat.le_of_ble_eq_true rfl) rfl hd d_Mo_classLine_13 (fun r_120 s_121 H locs h hP hD hS => ?_)
        have J_54 : ∀ (y_j54 : Ly) (s_j54 : St) (d_j54 e_j54 : Nat) (x1j54 : Int32) (z0j54 : Int32) (H : Heap) (locs : List Loc), wja_Mo_classLine_54 mc ms Post PX K_4 a0 y_j54 s_j54 d_j54 e_j54 x1j54 z0j54 → va_P D CL (ws g ad y_j54 s_j54) H → va_D A (ws g ad y_j54 s_j54) → va_S A s.heap H locs → ∀ ls, lv_has ls 8 [(0, .ref (ad a0)), (1, .int x1j54)] → W p l e (ra_Mo_classLine mc ms) s m args below meth c H locs d_j54 e_j54 Q (F0 m 54 ls [.int z0j54]) := by
          intro y_j54 s_j54 d_j54 e_j54 x1j54 z0j54 H locs h hP hD hS ls hl
          unfold wja_Mo_classLine_54 at h
          obtain ⟨hd, h⟩ := h
          refine lv_istore_n (lv' := [(3, .int z0j54), (0, .ref (ad a0)), (1, .int x1j54)]) G.1 G.2.1 d_Mo_classLine_54 rfl hl (by decide) rfl (fun ls hl => ?_)
          refine lv_iload_n G.1 G.2.1 d_Mo_classLine_55 rfl (lv_at hl 0 rfl) ?_
          have J_70 : ∀ (y_j70 : Ly) (s_j70 : St) (d_j70 e_j70 : Nat) (x1j70 : Int32) (x3j70 : Int32) (z0j70 : Int32) (H : Heap) (locs : List Loc), wja_Mo_classLine_70 mc ms Post PX K_4 a0 y_j70 s_j70 d_j70 e_j70 x1j70 x3j70 z0j70 → va_P D CL (ws g ad y_j70 s_j70) H → va_D A (ws g ad y_j70 s_j70) → va_S A s.heap H locs → ∀ ls, lv_has ls 8 [(0, .ref (ad a0)), (1, .int x1j70), (3, .int x3j70)] → W p l e (ra_Mo_classLine mc ms) s m args below meth c H locs d_j70 e_j70 Q (F0 m 70 ls [.int z0j70]) := by
            intro y_j70 s_j70 d_j70 e_j70 x1j70 x3j70 z0j70 H locs h hP hD hS ls hl
            unfold wja_Mo_classLine_70 at h
            obtain ⟨hd, h⟩ := h
            refine lv_istore_n (lv' := [(2, .int z0j70), (0, .ref (ad a0)), (1, .int x1j70), (3, .int x3j70)]) G.1 G.2.1 d_Mo_classLine_70 rfl hl (by decide) rfl (fun ls hl => ?_)
            refine lv_iload_n G.1 G.2.1 d_Mo_classLine_71 rfl (lv_at hl 2 rfl) ?_
            refine lv_iload_n G.1 G.2.1 d_Mo_classLine_72 rfl (lv_at hl 0 rfl) ?_
            have J_81 : ∀ (y_j81 : Ly) (s_j81 : St) (d_j81 e_j81 : Nat) (x2j81 : Int32) (z0j81 : Int32) (z1j81 : Int32) (H : Heap) (locs : List Loc), wja_Mo_classLine_81 mc ms Post PX K_4 a0 y_j81 s_j81 d_j81 e_j81 x2j81 z0j81 z1j81 → va_P D CL (ws g ad y_j81 s_j81) H → va_D A (ws g ad y_j81 s_j81) → va_S A s.heap H locs → ∀ ls, lv_has ls 8 [(0, .ref (ad a0)), (2, .int x2j81)] → W p l e (ra_Mo_classLine mc ms) s m args below meth c H locs d_j81 e_j81 Q (F0 m 81 ls [.int z1j81, .int z0j81]) := by
              intro y_j81 s_j81 d_j81 e_j81 x2j81 z0j81 z1j81 H locs h hP hD hS ls hl
              unfold wja_Mo_classLine_81 at h
              obtain ⟨hd, h⟩ := h
              refine lv_ior G.1 G.2.1 d_Mo_classLine_81 ?_
              refine lv_istore_n (lv' := [(1, .int (z0j81 ||| z1j81)), (0, .ref (ad a0)), (2, .int x2j81)]) G.1 G.2.1 d_Mo_classLine_82 rfl hl (by decide) rfl (fun ls hl => ?_)
              refine lv_aload_n G.1 G.2.1 d_Mo_classLine_83 rfl (lv_at hl 1 rfl) ?_
              refine lv_dup G.1 G.2.1 d_Mo_classLine_84 rfl ?_
              refine ugf (v := .int (sV s_j81 a0 43)) G hP h_a0 iMo rfl 43 (by decide) rfl q3107 rfl rfl d_Mo_classLine_85 ?_
              refine lv_iload_n G.1 G.2.1 d_Mo_classLine_88 rfl (lv_at hl 2 rfl) ?_
              have J_97 : ∀ (y_j97 : Ly) (s_j97 : St) (d_j97 e_j97 : Nat) (x1j97 : Int32) (x2j97 : Int32) (z1j97 : Int32) (z2j97 : Int32) (H : Heap) (locs : List Loc), wja_Mo_classLine_97 mc ms Post PX K_4 a0 y_j97 s_j97 d_j97 e_j97 x1j97 x2j97 z1j97 z2j97 → va_P D CL (ws g ad y_j97 s_j97) H → va_D A (ws g ad y_j97 s_j97) → va_S A s.heap H locs → ∀ ls, lv_has ls 8 [(0, .ref (ad a0)), (1, .int x1j97), (2, .int x2j97)] → W p l e (ra_Mo_classLine mc ms) s m args below meth c H locs d_j97 e_j97 Q (F0 m 97 ls [.int z2j97, .int z1j97, .ref (ad a0)]) := by
                intro y_j97 s_j97 d_j97 e_j97 x1j97 x2j97 z1j97 z2j97 H locs h hP hD hS ls hl
                unfold wja_Mo_classLine_97 at h
                obtain ⟨hd, h⟩ := h
                refine lv_iadd G.1 G.2.1 d_Mo_classLine_97 ?_
                refine upf G hP hD hS h 43 putV h_a0 iMo tMo tMo_ok nMo rfl (by decide) rfl q3107 rfl rfl fV rfl rfl d_Mo_classLine_98 (fun s_122 H locs h hP hD hS => ?_)
                refine lv_goto (tgt := 4) G.1 G.2.1 d_Mo_classLine_101 (by decide) ?_
                have h := hK_4 y_j97 s_122 d_j97 e_j97 x1j97 x2j97 h
                exact ih_4 y_j97 s_122 d_j97 e_j97 x1j97 x2j97 (Nat.lt_of_lt_of_le h.2 (Nat.le_of_lt_succ hμ_4)) h.1 H locs hP hD hS ls (lv_sub hl [0, 1, 2] rfl)
              refine lv_if_eq (tgt := 96) G.1 G.2.1 d_Mo_classLine_89 (by decide) (fun c89 => ?_) (fun c89 => ?_)
              · skip
                have h := h.1 c89
                refine lv_iconst (v := 0) G.1 G.2.1 d_Mo_classLine_96 (by decide) ?_
                exact J_97 y_j81 s_j81 d_j81 e_j81 (z0j81 ||| z1j81) x2j81 (sV s_j81 a0 43) 0 H locs h hP hD hS ls (lv_sub hl [1, 0, 2] rfl)
              · skip
                have h := h.2 c89
                refine lv_iconst (v := 1) G.1 G.2.1 d_Mo_classLine_92 (by decide) ?_
                refine lv_goto (tgt := 97) G.1 G.2.1 d_Mo_classLine_93 (by decide) ?_
                exact J_97 y_j81 s_j81 d_j81 e_j81 (z0j81 ||| z1j81) x2j81 (sV s_j81 a0 43) 1 H locs h hP hD hS ls (lv_sub hl [1, 0, 2] rfl)
            refine lv_if_eq (tgt := 80) G.1 G.2.1 d_Mo_classLine_73 (by decide) (fun c73 => ?_) (fun c73 => ?_)
            · skip
              have h := h.1 c73
              refine lv_iconst (v := 0) G.1 G.2.1 d_Mo_classLine_80 (by decide) ?_
              exact J_81 y_j70 s_j70 d_j70 e_j70 z0j70 x1j70 0 H locs h hP hD hS ls (lv_sub hl [1, 0] rfl)
            · skip
              have h := h.2 c73
              refine lv_iload_n G.1 G.2.1 d_Mo_classLine_76 rfl (lv_at hl 3 rfl) ?_
              refine lv_goto (tgt := 81) G.1 G.2.1 d_Mo_classLine_77 (by decide) ?_
              exact J_81 y_j70 s_j70 d_j70 e_j70 z0j70 x1j70 x3j70 H locs h hP hD hS ls (lv_sub hl [1, 0] rfl)
          have J_69 : ∀ (y_j69 : Ly) (s_j69 : St) (d_j69 e_j69 : Nat) (x1j69 : Int32) (x3j69 : Int32) (H : Heap) (locs : List Loc), wja_Mo_classLine_69 mc ms Post PX K_4 a0 y_j69 s_j69 d_j69 e_j69 x1j69 x3j69 → va_P D CL (ws g ad y_j69 s_j69) H → va_D A (ws g ad y_j69 s_j69) → va_S A s.heap H locs → ∀ ls, lv_has ls 8 [(0, .ref (ad a0)), (1, .int x1j69), (3, .int x3j69)] → W p l e (ra_Mo_classLine mc ms) s m args below meth c H locs d_j69 e_j69 Q (F0 m 69 ls []) := by
            intro y_j69 s_j69 d_j69 e_j69 x1j69 x3j69 H locs h hP hD hS ls hl
            unfold wja_Mo_classLine_69 at h
            obtain ⟨hd, h⟩ := h
            refine lv_iconst (v := 0) G.1 G.2.1 d_Mo_classLine_69 (by decide) ?_
            exact J_70 y_j69 s_j69 d_j69 e_j69 x1j69 x3j69 0 H locs h hP hD hS ls (lv_sub hl [0, 1, 2] rfl)
          refine lv_if_eq (tgt := 69) G.1 G.2.1 d_Mo_classLine_56 (by decide) (fun c56 => ?_) (fun c56 => ?_)
          · skip
            have h := h.1 c56
            exact J_69 y_j54 s_j54 d_j54 e_j54 x1j54 z0j54 H locs h hP hD hS ls (lv_sub hl [1, 2, 0] rfl)
          · skip
            have h := h.2 c56
            refine lv_iload_n G.1 G.2.1 d_Mo_classLine_59 rfl (lv_at hl 2 rfl) ?_
            refine lv_iload_n G.1 G.2.1 d_Mo_classLine_60 rfl (lv_at hl 0 rfl) ?_
            refine lv_iand G.1 G.2.1 d_Mo_classLine_61 ?_
            refine lv_if_ne (tgt := 69) G.1 G.2.1 d_Mo_classLine_62 (by decide) (fun c62 => ?_) (fun c62 => ?_)
            · skip
              have h := h.1 c62
              exact J_69 y_j54 s_j54 d_j54 e_j54 x1j54 z0j54 H locs h hP hD hS ls (lv_sub hl [1, 2, 0] rfl)
            · skip
              have h := h.2 c62
              refine lv_iconst (v := 1) G.1 G.2.1 d_Mo_classLine_65 (by decide) ?_
              refine lv_goto (tgt := 70) G.1 G.2.1 d_Mo_classLine_66 (by decide) ?_
              exact J_70 y_j54 s_j54 d_j54 e_j54 x1j54 z0j54 1 H locs h hP hD hS ls (lv_sub hl [1, 2, 0] rfl)
        refine lv_if_eq (tgt := 23) G.1 G.2.1 d_Mo_classLine_16 (by decide) (fun c16 => ?_) (fun c16 => ?_)
        · skip
          have h := h.1 c16
          refine lv_aload_n G.1 G.2.1 d_Mo_classLine_23 rfl (lv_at hl 0 rfl) ?_
          refine lv_aload_n G.1 G.2.1 d_Mo_classLine_24 rfl (lv_at hl 0 rfl) ?_
          refine ugf (v := .int (sV s_121 a0 11)) G hP h_a0 iMo rfl 11 (by decide) rfl q3075 rfl rfl d_Mo_classLine_25 ?_
          refine ucVi (As := [.int (sV s_121 a0 11)]) (rest := []) G hP hD hS (cu_Mo_isWord l D g ad y_h4 _ s_121 a0 (sV s_121 a0 11) H.size h_a0 h) w9_Mo_isWord q3522 ⟨Nat.le_of_ble_eq_true rfl, Nat.le_of_ble_eq_true rfl⟩ rfl rfl h_a0 (q := (RMo, TMo, 131)) rfl rfl hl.1 rfl (Nat.le_of_ble_eq_true rfl) rfl hd d_Mo_classLine_28 (fun r_123 s_124 H locs h hP hD hS => ?_)
          refine W.eq (g2 := F0 m 31 ls [.int r_123]) rfl ?_
          refine lv_if_eq (tgt := 38) G.1 G.2.1 d_Mo_classLine_31 (by decide) (fun c31 => ?_) (fun c31 => ?_)
          · skip
            have h := h.1 c31
            refine lv_aload_n G.1 G.2.1 d_Mo_classLine_38 rfl (lv_at hl 0 rfl) ?_
            refine lv_aload_n G.1 G.2.1 d_Mo_classLine_39 rfl (lv_at hl 0 rfl) ?_
            refine ugf (v := .int (sV s_124 a0 12)) G hP h_a0 iMo rfl 12 (by decide) rfl q3076 rfl rfl d_Mo_classLine_40 ?_
            refine ucVi (As := [.int (sV s_124 a0 12)]) (rest := []) G hP hD hS (cu_Mo_isWord l D g ad y_h4 _ s_124 a0 (sV s_124 a0 12) H.size h_a0 h) w9_Mo_isWord q3522 ⟨Nat.le_of_ble_eq_true rfl, Nat.le_of_ble_eq_true rfl⟩ rfl rfl h_a0 (q := (RMo, TMo, 131)) rfl rfl hl.1 rfl (Nat.le_of_ble_eq_true rfl) rfl hd d_Mo_classLine_43 (fun r_125 s_126 H locs h hP hD hS => ?_)
            refine lv_if_eq (tgt := 53) G.1 G.2.1 d_Mo_classLine_46 (by decide) (fun c46 => ?_) (fun c46 => ?_)
            · skip
              have h := h.1 c46
              refine lv_iconst (v := 0) G.1 G.2.1 d_Mo_classLine_53 (by decide) ?_
              exact J_54 y_h4 s_126 d_h4 e_h4 x1h4 0 H locs h hP hD hS ls (lv_sub hl [0, 1] rfl)
            · skip
              have h := h.2 c46
              refine lv_iconst (v := 4) G.1 G.2.1 d_Mo_classLine_49 (by decide) ?_
              refine lv_goto (tgt := 54) G.1 G.2.1 d_Mo_classLine_50 (by decide) ?_
              exact J_54 y_h4 s_126 d_h4 e_h4 x1h4 4 H locs h hP hD hS ls (lv_sub hl [0, 1] rfl)
          · skip
            have h := h.2 c31
            refine lv_iconst (v := 2) G.1 G.2.1 d_Mo_classLine_34 (by decide) ?_
            refine lv_goto (tgt := 54) G.1 G.2.1 d_Mo_classLine_35 (by decide) ?_
            exact J_54 y_h4 s_124 d_h4 e_h4 x1h4 2 H locs h hP hD hS ls (lv_sub hl [0, 1] rfl)
        · skip
          have h := h.2 c16
          refine lv_iconst (v := 1) G.1 G.2.1 d_Mo_classLine_19 (by decide) ?_
          refine lv_goto (tgt := 54) G.1 G.2.1 d_Mo_classLine_20 (by decide) ?_
          exact J_54 y_h4 s_121 d_h4 e_h4 x1h4 1 H locs h hP hD hS ls (lv_sub hl [0, 1] rfl)
  exact L_4 _ y σ 0 0 0 1 (Nat.lt_succ_self _) hI_4 H locs hP hD hS ls (lv_sub hl [2, 1, 0] rfl)
