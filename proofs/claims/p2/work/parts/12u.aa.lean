def y_Mo_nameIn : MethodName := ⟨"ClassWorksModel", "nameIn", "([BII)I"⟩
abbrev b_Mo_nameIn : ByteArray := prog_14_method_3_code
theorem q3067 : Cond.fieldLink "ClassWorksModel" 17 "ClassWorksModel" "nameFirsts" "[I" ∈ lw_ok := lw_okmem (List.mem_of_getElem? (i := 3067) (by decide +kernel)) rfl
theorem q3068 : Cond.fieldLink "ClassWorksModel" 32 "ClassWorksModel" "names" "I" ∈ lw_ok := lw_okmem (List.mem_of_getElem? (i := 3068) (by decide +kernel)) rfl
theorem q2591 : Cond.methodLink "ClassWorksModel" 36 y_Mo_roomy ∈ lw_ok := lw_okmem (List.mem_of_getElem? (i := 2591) (by decide +kernel)) rfl
theorem q3066 : Cond.fieldLink "ClassWorksModel" 25 "ClassWorksModel" "nameNexts" "[I" ∈ lw_ok := lw_okmem (List.mem_of_getElem? (i := 3066) (by decide +kernel)) rfl
theorem q2596 : Cond.methodLink "ClassWorksModel" 43 y_Mo_room ∈ lw_ok := lw_okmem (List.mem_of_getElem? (i := 2596) (by decide +kernel)) rfl
theorem d_Mo_nameIn_0 : decode b_Mo_nameIn 0 = .ok (.iload_n 3, 1) := by decide +kernel
theorem d_Mo_nameIn_1 : decode b_Mo_nameIn 1 = .ok (.istore 4, 2) := by decide +kernel
theorem d_Mo_nameIn_3 : decode b_Mo_nameIn 3 = .ok (.iconst 0, 1) := by decide +kernel
theorem d_Mo_nameIn_4 : decode b_Mo_nameIn 4 = .ok (.istore 5, 2) := by decide +kernel
theorem d_Mo_nameIn_6 : decode b_Mo_nameIn 6 = .ok (.iload 5, 2) := by decide +kernel
theorem d_Mo_nameIn_8 : decode b_Mo_nameIn 8 = .ok (.iload_n 3, 1) := by decide +kernel
theorem d_Mo_nameIn_9 : decode b_Mo_nameIn 9 = .ok (.if_icmp .ge 23, 3) := by decide +kernel
theorem d_Mo_nameIn_12 : decode b_Mo_nameIn 12 = .ok (.bipush 31, 2) := by decide +kernel
theorem d_Mo_nameIn_14 : decode b_Mo_nameIn 14 = .ok (.iload 4, 2) := by decide +kernel
theorem d_Mo_nameIn_16 : decode b_Mo_nameIn 16 = .ok (.imul, 1) := by decide +kernel
theorem d_Mo_nameIn_17 : decode b_Mo_nameIn 17 = .ok (.aload_n 1, 1) := by decide +kernel
theorem d_Mo_nameIn_18 : decode b_Mo_nameIn 18 = .ok (.iload_n 2, 1) := by decide +kernel
theorem d_Mo_nameIn_19 : decode b_Mo_nameIn 19 = .ok (.iload 5, 2) := by decide +kernel
theorem d_Mo_nameIn_21 : decode b_Mo_nameIn 21 = .ok (.iadd, 1) := by decide +kernel
theorem d_Mo_nameIn_22 : decode b_Mo_nameIn 22 = .ok (.baload, 1) := by decide +kernel
theorem d_Mo_nameIn_23 : decode b_Mo_nameIn 23 = .ok (.iadd, 1) := by decide +kernel
theorem d_Mo_nameIn_24 : decode b_Mo_nameIn 24 = .ok (.istore 4, 2) := by decide +kernel
theorem d_Mo_nameIn_26 : decode b_Mo_nameIn 26 = .ok (.iinc 5 1, 3) := by decide +kernel
theorem d_Mo_nameIn_29 : decode b_Mo_nameIn 29 = .ok (.goto (-23), 3) := by decide +kernel
theorem d_Mo_nameIn_32 : decode b_Mo_nameIn 32 = .ok (.iload 4, 2) := by decide +kernel
theorem d_Mo_nameIn_34 : decode b_Mo_nameIn 34 = .ok (.iload 4, 2) := by decide +kernel
theorem d_Mo_nameIn_36 : decode b_Mo_nameIn 36 = .ok (.bipush 13, 2) := by decide +kernel
theorem d_Mo_nameIn_38 : decode b_Mo_nameIn 38 = .ok (.iushr, 1) := by decide +kernel
theorem d_Mo_nameIn_39 : decode b_Mo_nameIn 39 = .ok (.ixor, 1) := by decide +kernel
theorem d_Mo_nameIn_40 : decode b_Mo_nameIn 40 = .ok (.sipush 4095, 3) := by decide +kernel
theorem d_Mo_nameIn_43 : decode b_Mo_nameIn 43 = .ok (.iand, 1) := by decide +kernel
theorem d_Mo_nameIn_44 : decode b_Mo_nameIn 44 = .ok (.istore 5, 2) := by decide +kernel
theorem d_Mo_nameIn_46 : decode b_Mo_nameIn 46 = .ok (.aload_n 0, 1) := by decide +kernel
theorem d_Mo_nameIn_47 : decode b_Mo_nameIn 47 = .ok (.getfield 17, 3) := by decide +kernel
theorem d_Mo_nameIn_50 : decode b_Mo_nameIn 50 = .ok (.iload 5, 2) := by decide +kernel
theorem d_Mo_nameIn_52 : decode b_Mo_nameIn 52 = .ok (.iaload, 1) := by decide +kernel
theorem d_Mo_nameIn_53 : decode b_Mo_nameIn 53 = .ok (.istore 6, 2) := by decide +kernel
theorem d_Mo_nameIn_55 : decode b_Mo_nameIn 55 = .ok (.iload 6, 2) := by decide +kernel
theorem d_Mo_nameIn_57 : decode b_Mo_nameIn 57 = .ok (.ifCond .le 36, 3) := by decide +kernel
theorem d_Mo_nameIn_60 : decode b_Mo_nameIn 60 = .ok (.aload_n 0, 1) := by decide +kernel
theorem d_Mo_nameIn_61 : decode b_Mo_nameIn 61 = .ok (.iload 6, 2) := by decide +kernel
theorem d_Mo_nameIn_63 : decode b_Mo_nameIn 63 = .ok (.iconst 1, 1) := by decide +kernel
theorem d_Mo_nameIn_64 : decode b_Mo_nameIn 64 = .ok (.isub, 1) := by decide +kernel
theorem d_Mo_nameIn_65 : decode b_Mo_nameIn 65 = .ok (.aload_n 1, 1) := by decide +kernel
theorem d_Mo_nameIn_66 : decode b_Mo_nameIn 66 = .ok (.iload_n 2, 1) := by decide +kernel
theorem d_Mo_nameIn_67 : decode b_Mo_nameIn 67 = .ok (.iload_n 3, 1) := by decide +kernel
theorem d_Mo_nameIn_68 : decode b_Mo_nameIn 68 = .ok (.invokevirtual 21, 3) := by decide +kernel
theorem d_Mo_nameIn_71 : decode b_Mo_nameIn 71 = .ok (.ifCond .eq 8, 3) := by decide +kernel
theorem d_Mo_nameIn_74 : decode b_Mo_nameIn 74 = .ok (.iload 6, 2) := by decide +kernel
theorem d_Mo_nameIn_76 : decode b_Mo_nameIn 76 = .ok (.iconst 1, 1) := by decide +kernel
theorem d_Mo_nameIn_77 : decode b_Mo_nameIn 77 = .ok (.isub, 1) := by decide +kernel
theorem d_Mo_nameIn_78 : decode b_Mo_nameIn 78 = .ok (.ireturn, 1) := by decide +kernel
theorem d_Mo_nameIn_79 : decode b_Mo_nameIn 79 = .ok (.aload_n 0, 1) := by decide +kernel
theorem d_Mo_nameIn_80 : decode b_Mo_nameIn 80 = .ok (.getfield 25, 3) := by decide +kernel
theorem d_Mo_nameIn_83 : decode b_Mo_nameIn 83 = .ok (.iload 6, 2) := by decide +kernel
theorem d_Mo_nameIn_85 : decode b_Mo_nameIn 85 = .ok (.iconst 1, 1) := by decide +kernel
theorem d_Mo_nameIn_86 : decode b_Mo_nameIn 86 = .ok (.isub, 1) := by decide +kernel
theorem d_Mo_nameIn_87 : decode b_Mo_nameIn 87 = .ok (.iaload, 1) := by decide +kernel
theorem d_Mo_nameIn_88 : decode b_Mo_nameIn 88 = .ok (.istore 6, 2) := by decide +kernel
theorem d_Mo_nameIn_90 : decode b_Mo_nameIn 90 = .ok (.goto (-35), 3) := by decide +kernel
theorem d_Mo_nameIn_93 : decode b_Mo_nameIn 93 = .ok (.aload_n 0, 1) := by decide +kernel
theorem d_Mo_nameIn_94 : decode b_Mo_nameIn 94 = .ok (.aload_n 0, 1) := by decide +kernel
theorem d_Mo_nameIn_95 : decode b_Mo_nameIn 95 = .ok (.getfield 28, 3) := by decide +kernel
theorem d_Mo_nameIn_98 : decode b_Mo_nameIn 98 = .ok (.bipush 12, 2) := by decide +kernel
theorem d_Mo_nameIn_100 : decode b_Mo_nameIn 100 = .ok (.aload_n 0, 1) := by decide +kernel
theorem d_Mo_nameIn_101 : decode b_Mo_nameIn 101 = .ok (.getfield 32, 3) := by decide +kernel
theorem d_Mo_nameIn_104 : decode b_Mo_nameIn 104 = .ok (.iconst 1, 1) := by decide +kernel
theorem d_Mo_nameIn_105 : decode b_Mo_nameIn 105 = .ok (.iadd, 1) := by decide +kernel
theorem d_Mo_nameIn_106 : decode b_Mo_nameIn 106 = .ok (.imul, 1) := by decide +kernel
theorem d_Mo_nameIn_107 : decode b_Mo_nameIn 107 = .ok (.invokestatic 36, 3) := by decide +kernel
theorem d_Mo_nameIn_110 : decode b_Mo_nameIn 110 = .ok (.putfield 28, 3) := by decide +kernel
theorem d_Mo_nameIn_113 : decode b_Mo_nameIn 113 = .ok (.aload_n 0, 1) := by decide +kernel
theorem d_Mo_nameIn_114 : decode b_Mo_nameIn 114 = .ok (.aload_n 0, 1) := by decide +kernel
theorem d_Mo_nameIn_115 : decode b_Mo_nameIn 115 = .ok (.getfield 40, 3) := by decide +kernel
theorem d_Mo_nameIn_118 : decode b_Mo_nameIn 118 = .ok (.aload_n 0, 1) := by decide +kernel
theorem d_Mo_nameIn_119 : decode b_Mo_nameIn 119 = .ok (.getfield 32, 3) := by decide +kernel
theorem d_Mo_nameIn_122 : decode b_Mo_nameIn 122 = .ok (.iconst 1, 1) := by decide +kernel
theorem d_Mo_nameIn_123 : decode b_Mo_nameIn 123 = .ok (.iadd, 1) := by decide +kernel
theorem d_Mo_nameIn_124 : decode b_Mo_nameIn 124 = .ok (.invokestatic 36, 3) := by decide +kernel
theorem d_Mo_nameIn_127 : decode b_Mo_nameIn 127 = .ok (.putfield 40, 3) := by decide +kernel
theorem d_Mo_nameIn_130 : decode b_Mo_nameIn 130 = .ok (.aload_n 0, 1) := by decide +kernel
theorem d_Mo_nameIn_131 : decode b_Mo_nameIn 131 = .ok (.aload_n 0, 1) := by decide +kernel
theorem d_Mo_nameIn_132 : decode b_Mo_nameIn 132 = .ok (.getfield 25, 3) := by decide +kernel
theorem d_Mo_nameIn_135 : decode b_Mo_nameIn 135 = .ok (.aload_n 0, 1) := by decide +kernel
theorem d_Mo_nameIn_136 : decode b_Mo_nameIn 136 = .ok (.getfield 32, 3) := by decide +kernel
theorem d_Mo_nameIn_139 : decode b_Mo_nameIn 139 = .ok (.iconst 1, 1) := by decide +kernel
theorem d_Mo_nameIn_140 : decode b_Mo_nameIn 140 = .ok (.iadd, 1) := by decide +kernel
theorem d_Mo_nameIn_141 : decode b_Mo_nameIn 141 = .ok (.invokestatic 43, 3) := by decide +kernel
theorem d_Mo_nameIn_144 : decode b_Mo_nameIn 144 = .ok (.putfield 25, 3) := by decide +kernel
theorem d_Mo_nameIn_147 : decode b_Mo_nameIn 147 = .ok (.iconst 0, 1) := by decide +kernel
theorem d_Mo_nameIn_148 : decode b_Mo_nameIn 148 = .ok (.istore 6, 2) := by decide +kernel
theorem d_Mo_nameIn_150 : decode b_Mo_nameIn 150 = .ok (.iload 6, 2) := by decide +kernel
theorem d_Mo_nameIn_152 : decode b_Mo_nameIn 152 = .ok (.iload_n 3, 1) := by decide +kernel
theorem d_Mo_nameIn_153 : decode b_Mo_nameIn 153 = .ok (.if_icmp .ge 30, 3) := by decide +kernel
theorem d_Mo_nameIn_156 : decode b_Mo_nameIn 156 = .ok (.aload_n 0, 1) := by decide +kernel
theorem d_Mo_nameIn_157 : decode b_Mo_nameIn 157 = .ok (.getfield 28, 3) := by decide +kernel
theorem d_Mo_nameIn_160 : decode b_Mo_nameIn 160 = .ok (.bipush 12, 2) := by decide +kernel
theorem d_Mo_nameIn_162 : decode b_Mo_nameIn 162 = .ok (.aload_n 0, 1) := by decide +kernel
theorem d_Mo_nameIn_163 : decode b_Mo_nameIn 163 = .ok (.getfield 32, 3) := by decide +kernel
theorem d_Mo_nameIn_166 : decode b_Mo_nameIn 166 = .ok (.imul, 1) := by decide +kernel
theorem d_Mo_nameIn_167 : decode b_Mo_nameIn 167 = .ok (.iload 6, 2) := by decide +kernel
theorem d_Mo_nameIn_169 : decode b_Mo_nameIn 169 = .ok (.iadd, 1) := by decide +kernel
theorem d_Mo_nameIn_170 : decode b_Mo_nameIn 170 = .ok (.aload_n 1, 1) := by decide +kernel
theorem d_Mo_nameIn_171 : decode b_Mo_nameIn 171 = .ok (.iload_n 2, 1) := by decide +kernel
theorem d_Mo_nameIn_172 : decode b_Mo_nameIn 172 = .ok (.iload 6, 2) := by decide +kernel
theorem d_Mo_nameIn_174 : decode b_Mo_nameIn 174 = .ok (.iadd, 1) := by decide +kernel
theorem d_Mo_nameIn_175 : decode b_Mo_nameIn 175 = .ok (.baload, 1) := by decide +kernel
theorem d_Mo_nameIn_176 : decode b_Mo_nameIn 176 = .ok (.bastore, 1) := by decide +kernel
theorem d_Mo_nameIn_177 : decode b_Mo_nameIn 177 = .ok (.iinc 6 1, 3) := by decide +kernel
theorem d_Mo_nameIn_180 : decode b_Mo_nameIn 180 = .ok (.goto (-30), 3) := by decide +kernel
theorem d_Mo_nameIn_183 : decode b_Mo_nameIn 183 = .ok (.aload_n 0, 1) := by decide +kernel
theorem d_Mo_nameIn_184 : decode b_Mo_nameIn 184 = .ok (.getfield 40, 3) := by decide +kernel
theorem d_Mo_nameIn_187 : decode b_Mo_nameIn 187 = .ok (.aload_n 0, 1) := by decide +kernel
theorem d_Mo_nameIn_188 : decode b_Mo_nameIn 188 = .ok (.getfield 32, 3) := by decide +kernel
theorem d_Mo_nameIn_191 : decode b_Mo_nameIn 191 = .ok (.iload_n 3, 1) := by decide +kernel
theorem d_Mo_nameIn_192 : decode b_Mo_nameIn 192 = .ok (.i2b, 1) := by decide +kernel
theorem d_Mo_nameIn_193 : decode b_Mo_nameIn 193 = .ok (.bastore, 1) := by decide +kernel
theorem d_Mo_nameIn_194 : decode b_Mo_nameIn 194 = .ok (.aload_n 0, 1) := by decide +kernel
theorem d_Mo_nameIn_195 : decode b_Mo_nameIn 195 = .ok (.getfield 25, 3) := by decide +kernel
theorem d_Mo_nameIn_198 : decode b_Mo_nameIn 198 = .ok (.aload_n 0, 1) := by decide +kernel
theorem d_Mo_nameIn_199 : decode b_Mo_nameIn 199 = .ok (.getfield 32, 3) := by decide +kernel
theorem d_Mo_nameIn_202 : decode b_Mo_nameIn 202 = .ok (.aload_n 0, 1) := by decide +kernel
theorem d_Mo_nameIn_203 : decode b_Mo_nameIn 203 = .ok (.getfield 17, 3) := by decide +kernel
theorem d_Mo_nameIn_206 : decode b_Mo_nameIn 206 = .ok (.iload 5, 2) := by decide +kernel
theorem d_Mo_nameIn_208 : decode b_Mo_nameIn 208 = .ok (.iaload, 1) := by decide +kernel
theorem d_Mo_nameIn_209 : decode b_Mo_nameIn 209 = .ok (.iastore, 1) := by decide +kernel
theorem d_Mo_nameIn_210 : decode b_Mo_nameIn 210 = .ok (.aload_n 0, 1) := by decide +kernel
theorem d_Mo_nameIn_211 : decode b_Mo_nameIn 211 = .ok (.dup, 1) := by decide +kernel
theorem d_Mo_nameIn_212 : decode b_Mo_nameIn 212 = .ok (.getfield 32, 3) := by decide +kernel
theorem d_Mo_nameIn_215 : decode b_Mo_nameIn 215 = .ok (.iconst 1, 1) := by decide +kernel
theorem d_Mo_nameIn_216 : decode b_Mo_nameIn 216 = .ok (.iadd, 1) := by decide +kernel
theorem d_Mo_nameIn_217 : decode b_Mo_nameIn 217 = .ok (.putfield 32, 3) := by decide +kernel
theorem d_Mo_nameIn_220 : decode b_Mo_nameIn 220 = .ok (.aload_n 0, 1) := by decide +kernel
theorem d_Mo_nameIn_221 : decode b_Mo_nameIn 221 = .ok (.getfield 17, 3) := by decide +kernel
theorem d_Mo_nameIn_224 : decode b_Mo_nameIn 224 = .ok (.iload 5, 2) := by decide +kernel
theorem d_Mo_nameIn_226 : decode b_Mo_nameIn 226 = .ok (.aload_n 0, 1) := by decide +kernel
theorem d_Mo_nameIn_227 : decode b_Mo_nameIn 227 = .ok (.getfield 32, 3) := by decide +kernel
theorem d_Mo_nameIn_230 : decode b_Mo_nameIn 230 = .ok (.iastore, 1) := by decide +kernel
theorem d_Mo_nameIn_231 : decode b_Mo_nameIn 231 = .ok (.aload_n 0, 1) := by decide +kernel
theorem d_Mo_nameIn_232 : decode b_Mo_nameIn 232 = .ok (.getfield 32, 3) := by decide +kernel
theorem d_Mo_nameIn_235 : decode b_Mo_nameIn 235 = .ok (.iconst 1, 1) := by decide +kernel
theorem d_Mo_nameIn_236 : decode b_Mo_nameIn 236 = .ok (.isub, 1) := by decide +kernel
theorem d_Mo_nameIn_237 : decode b_Mo_nameIn 237 = .ok (.ireturn, 1) := by decide +kernel
abbrev ra_Mo_nameIn (mc ms : Nat) : Room := { frames := 2, cells := mc, slots := ms, locals := 150 }
def wba_Mo_nameIn_150 (mc ms : Nat) (Post : Ly → St → Int32 → Nat → Nat → Prop) (K_150 : Ly → St → Nat → Nat → Int32 → Int32 → Int32 → Int32 → Prop) (a0 : Nat) (a1 : Nat) (k1 : Nat) (y_h150 : Ly) (s_h150 : St) (d_h150 e_h150 : Nat) (x2h150 : Int32) (x3h150 : Int32) (x5h150 : Int32) (x6h150 : Int32) : Prop := (d_h150 ≤ mc ∧ e_h150 ≤ ms) ∧ ((x3h150 ≤ x6h150 → xS y_h150 s_h150 a0 1 (sV s_h150 a0 4) (vp_nar .byte x3h150.toInt8.toInt32) (fun s_17 : St => xA y_h150 s_17 a0 3 x5h150 (fun x_18 : Int32 => xS y_h150 s_17 a0 2 (sV s_17 a0 4) x_18 (fun s_19 : St => xP (uV s_19 a0 4 ((sV s_19 a0 4) + 1)) (fun s_20 : St => xS y_h150 s_20 a0 3 x5h150 (sV s_20 a0 4) (fun s_21 : St => Post y_h150 s_21 ((sV s_21 a0 4) - 1) d_h150 e_h150)))))) ∧ (¬ (x3h150 ≤ x6h150) → xA y_h150 s_h150 a1 k1 (x2h150 + x6h150) (fun x_22 : Int32 => xS y_h150 s_h150 a0 0 ((12 * (sV s_h150 a0 4)) + x6h150) (vp_nar .byte x_22) (fun s_23 : St => K_150 y_h150 s_23 d_h150 e_h150 x2h150 x3h150 x5h150 (x6h150 + 1)))))
def wla_Mo_nameIn_150 (mc ms : Nat) (Post : Ly → St → Int32 → Nat → Nat → Prop) (a0 : Nat) (a1 : Nat) (k1 : Nat) (y_h150 : Ly) (s_h150 : St) (d_h150 e_h150 : Nat) (x2h150 : Int32) (x3h150 : Int32) (x5h150 : Int32) (x6h150 : Int32) : Prop := ∃ (I : Ly → St → Nat → Nat → Int32 → Int32 → Int32 → Int32 → Prop) (μ : Ly → St → Nat → Nat → Int32 → Int32 → Int32 → Int32 → Nat), I y_h150 s_h150 d_h150 e_h150 x2h150 x3h150 x5h150 x6h150 ∧ ∀ (u1 : Ly) (u2 : St) (u3 u4 : Nat) (t0 : Int32) (t1 : Int32) (t2 : Int32) (t3 : Int32), I u1 u2 u3 u4 t0 t1 t2 t3 → wba_Mo_nameIn_150 mc ms Post (fun z1 z2 z3 z4 t0q t1q t2q t3q => I z1 z2 z3 z4 t0q t1q t2q t3q ∧ μ z1 z2 z3 z4 t0q t1q t2q t3q < μ u1 u2 u3 u4 t0 t1 t2 t3) a0 a1 k1 u1 u2 u3 u4 t0 t1 t2 t3
def wba_Mo_nameIn_55 (mc ms : Nat) (Post : Ly → St → Int32 → Nat → Nat → Prop) (K_55 : Ly → St → Nat → Nat → Int32 → Int32 → Int32 → Int32 → Prop) (a0 : Nat) (a1 : Nat) (k1 : Nat) (y_h55 : Ly) (s_h55 : St) (d_h55 e_h55 : Nat) (x2h55 : Int32) (x3h55 : Int32) (x5h55 : Int32) (x6h55 : Int32) : Prop := (d_h55 ≤ mc ∧ e_h55 ≤ ms) ∧ ((x6h55 ≤ 0 → xR mc ms d_h55 e_h55 .byte y_h55 s_h55 a0 0 (12 * ((sV s_h55 a0 4) + 1)) (fun (y_2 : Ly) (s_3 : St) (d_4 e_5 : Nat) => (d_4 ≤ mc ∧ e_5 ≤ ms) ∧ yP y_h55 a1 k1 = yP y_2 a1 k1 ∧ xR mc ms d_4 e_5 .byte y_2 s_3 a0 1 ((sV s_3 a0 4) + 1) (fun (y_7 : Ly) (s_8 : St) (d_9 e_10 : Nat) => (d_9 ≤ mc ∧ e_10 ≤ ms) ∧ yP y_2 a1 k1 = yP y_7 a1 k1 ∧ xR mc ms d_9 e_10 .int y_7 s_8 a0 2 ((sV s_8 a0 4) + 1) (fun (y_12 : Ly) (s_13 : St) (d_14 e_15 : Nat) => (d_14 ≤ mc ∧ e_15 ≤ ms) ∧ yP y_7 a1 k1 = yP y_12 a1 k1 ∧ wla_Mo_nameIn_150 mc ms Post a0 a1 k1 y_12 s_13 d_14 e_15 x2h55 x3h55 x5h55 0)))) ∧ (¬ (x6h55 ≤ 0) → wu_Mo_isName y_h55 (fun (s_25 : St) (r_24 : Int32) => ((r_24 = 0 → xA y_h55 s_25 a0 2 (x6h55 - 1) (fun x_26 : Int32 => K_55 y_h55 s_25 d_h55 e_h55 x2h55 x3h55 x5h55 x_26)) ∧ (¬ (r_24 = 0) → Post y_h55 s_25 (x6h55 - 1) d_h55 e_h55))) s_h55 a0 (x6h55 - 1) a1 k1 x2h55 x3h55))
def wla_Mo_nameIn_55 (mc ms : Nat) (Post : Ly → St → Int32 → Nat → Nat → Prop) (a0 : Nat) (a1 : Nat) (k1 : Nat) (y_h55 : Ly) (s_h55 : St) (d_h55 e_h55 : Nat) (x2h55 : Int32) (x3h55 : Int32) (x5h55 : Int32) (x6h55 : Int32) : Prop := ∃ (I : Ly → St → Nat → Nat → Int32 → Int32 → Int32 → Int32 → Prop) (μ : Ly → St → Nat → Nat → Int32 → Int32 → Int32 → Int32 → Nat), I y_h55 s_h55 d_h55 e_h55 x2h55 x3h55 x5h55 x6h55 ∧ ∀ (u1 : Ly) (u2 : St) (u3 u4 : Nat) (t0 : Int32) (t1 : Int32) (t2 : Int32) (t3 : Int32), I u1 u2 u3 u4 t0 t1 t2 t3 → wba_Mo_nameIn_55 mc ms Post (fun z1 z2 z3 z4 t0q t1q t2q t3q => I z1 z2 z3 z4 t0q t1q t2q t3q ∧ μ z1 z2 z3 z4 t0q t1q t2q t3q < μ u1 u2 u3 u4 t0 t1 t2 t3) a0 a1 k1 u1 u2 u3 u4 t0 t1 t2 t3
def wba_Mo_nameIn_6 (mc ms : Nat) (Post : Ly → St → Int32 → Nat → Nat → Prop) (K_6 : Ly → St → Nat → Nat → Int32 → Int32 → Int32 → Int32 → Prop) (a0 : Nat) (a1 : Nat) (k1 : Nat) (y_h6 : Ly) (s_h6 : St) (d_h6 e_h6 : Nat) (x2h6 : Int32) (x3h6 : Int32) (x4h6 : Int32) (x5h6 : Int32) : Prop := (d_h6 ≤ mc ∧ e_h6 ≤ ms) ∧ ((x3h6 ≤ x5h6 → xA y_h6 s_h6 a0 3 ((x4h6 ^^^ ((x4h6.toUInt32 >>> ((13 : Int32).toUInt32 &&& Int32.toUInt32 31)).toInt32)) &&& 4095) (fun x_1 : Int32 => wla_Mo_nameIn_55 mc ms Post a0 a1 k1 y_h6 s_h6 d_h6 e_h6 x2h6 x3h6 ((x4h6 ^^^ ((x4h6.toUInt32 >>> ((13 : Int32).toUInt32 &&& Int32.toUInt32 31)).toInt32)) &&& 4095) x_1)) ∧ (¬ (x3h6 ≤ x5h6) → xA y_h6 s_h6 a1 k1 (x2h6 + x5h6) (fun x_27 : Int32 => K_6 y_h6 s_h6 d_h6 e_h6 x2h6 x3h6 ((31 * x4h6) + x_27) (x5h6 + 1))))
def wla_Mo_nameIn_6 (mc ms : Nat) (Post : Ly → St → Int32 → Nat → Nat → Prop) (a0 : Nat) (a1 : Nat) (k1 : Nat) (y_h6 : Ly) (s_h6 : St) (d_h6 e_h6 : Nat) (x2h6 : Int32) (x3h6 : Int32) (x4h6 : Int32) (x5h6 : Int32) : Prop := ∃ (I : Ly → St → Nat → Nat → Int32 → Int32 → Int32 → Int32 → Prop) (μ : Ly → St → Nat → Nat → Int32 → Int32 → Int32 → Int32 → Nat), I y_h6 s_h6 d_h6 e_h6 x2h6 x3h6 x4h6 x5h6 ∧ ∀ (u1 : Ly) (u2 : St) (u3 u4 : Nat) (t0 : Int32) (t1 : Int32) (t2 : Int32) (t3 : Int32), I u1 u2 u3 u4 t0 t1 t2 t3 → wba_Mo_nameIn_6 mc ms Post (fun z1 z2 z3 z4 t0q t1q t2q t3q => I z1 z2 z3 z4 t0q t1q t2q t3q ∧ μ z1 z2 z3 z4 t0q t1q t2q t3q < μ u1 u2 u3 u4 t0 t1 t2 t3) a0 a1 k1 u1 u2 u3 u4 t0 t1 t2 t3
def wa_Mo_nameIn (mc ms : Nat) (y : Ly) (Post : Ly → St → Int32 → Nat → Nat → Prop) (σ : St) (a0 : Nat) (a1 : Nat) (k1 : Nat) (v2 : Int32) (v3 : Int32) : Prop := wla_Mo_nameIn_6 mc ms Post a0 a1 k1 y σ 0 0 v2 v3 v3 0
set_option maxHeartbeats 4000000 in
set_option maxRecDepth 100000 in
theorem ca_Mo_nameIn (l : Launch) (D : va_G) (g : Nat → ClassId) (ad : Nat → Nat) (mc ms : Nat) (y : Ly) (Post : Ly → St → Int32 → Nat → Nat → Prop) (σ : St) (a0 : Nat) (a1 : Nat) (k1 : Nat) (v2 : Int32) (v3 : Int32) (sz uz : Nat) (h_a0 : cl a0 = 14) (h_a1 : kd (cl a1) k1 = 2 ∧ tyx (cl a1) k1 = 1) (h : wa_Mo_nameIn mc ms y Post σ a0 a1 k1 v2 v3) : Met l y_Mo_nameIn (mw y_Mo_nameIn b_Mo_nameIn 7 (some .int)) (ra_Mo_nameIn mc ms) (PCu g D [] [.ref (ad a0), .ref (yP y a1 k1), .int v2, .int v3] sz uz (ws g ad y σ)) (va_Qi (fun (r : Int32) (u : Ly × St × Nat × Nat) => Post u.1 u.2.1 r u.2.2.1 u.2.2.2) (QU D (va_A (ws g ad y σ) sz) (fun u => ws g ad u.1 u.2.1) sz uz (fun u => u.2.2.1) (fun u => u.2.2.2)) (va_A (ws g ad y σ) sz)) mc ms (va_A (ws g ad y σ) sz) := by
  refine ofIu (by decide +kernel) (Nat.le_of_ble_eq_true rfl) ?_
  intro p e s m args below meth c A Q ls H locs G hsz hP hD hS hl hret
  subst hsz
  have hl : lv_has ls 7 [(0, .ref (ad a0)), (1, .ref (yP y a1 k1)), (2, .int v2), (3, .int v3)] := hl
  have hd : 0 ≤ mc ∧ 0 ≤ ms := ⟨Nat.zero_le _, Nat.zero_le _⟩
  unfold wa_Mo_nameIn at h
  refine lv_iload_n G.1 G.2.1 d_Mo_nameIn_0 rfl (lv_at hl 3 rfl) ?_
  refine lv_istore (lv' := [(4, .int v3), (0, .ref (ad a0)), (1, .ref (yP y a1 k1)), (2, .int v2), (3, .int v3)]) G.1 G.2.1 d_Mo_nameIn_1 hl (by decide) rfl (fun ls hl => ?_)
  refine lv_iconst (v := 0) G.1 G.2.1 d_Mo_nameIn_3 (by decide) ?_
  refine lv_istore (lv' := [(5, .int 0), (4, .int v3), (0, .ref (ad a0)), (1, .ref (yP y a1 k1)), (2, .int v2), (3, .int v3)]) G.1 G.2.1 d_Mo_nameIn_4 hl (by decide) rfl (fun ls hl => ?_)
  unfold wla_Mo_nameIn_6 at h
  obtain ⟨I_6, μ_6, hI_6, hB_6⟩ := h
  have L_6 : ∀ (n_6 : Nat) (y_h6 : Ly) (s_h6 : St) (d_h6 e_h6 : Nat) (x2h6 : Int32) (x3h6 : Int32) (x4h6 : Int32) (x5h6 : Int32), μ_6 y_h6 s_h6 d_h6 e_h6 x2h6 x3h6 x4h6 x5h6 < n_6 → I_6 y_h6 s_h6 d_h6 e_h6 x2h6 x3h6 x4h6 x5h6 → ∀ (H : Heap) (locs : List Loc), va_P D CL (ws g ad y_h6 s_h6) H → va_D A (ws g ad y_h6 s_h6) → va_S A s.heap H locs → ∀ ls, lv_has ls 7 [(0, .ref (ad a0)), (1, .ref (yP y_h6 a1 k1)), (2, .int x2h6), (3, .int x3h6), (4, .int x4h6), (5, .int x5h6)] → W p l e (ra_Mo_nameIn mc ms) s m args below meth c H locs d_h6 e_h6 Q (F0 m 6 ls []) := by
    intro n_6
    induction n_6 with
    | zero => intro y_h6 s_h6 d_h6 e_h6 x2h6 x3h6 x4h6 x5h6 hμ; exact absurd hμ (Nat.not_lt_zero _)
    | succ n_6 ih_6 =>
      intro y_h6 s_h6 d_h6 e_h6 x2h6 x3h6 x4h6 x5h6 hμ_6 hJ H locs hP hD hS ls hl
      obtain ⟨K_6, hK_6, h⟩ : ∃ K : Ly → St → Nat → Nat → Int32 → Int32 → Int32 → Int32 → Prop, (∀ z1 z2 z3 z4 (t0 : Int32) (t1 : Int32) (t2 : Int32) (t3 : Int32), K z1 z2 z3 z4 t0 t1 t2 t3 → I_6 z1 z2 z3 z4 t0 t1 t2 t3 ∧ μ_6 z1 z2 z3 z4 t0 t1 t2 t3 < μ_6 y_h6 s_h6 d_h6 e_h6 x2h6 x3h6 x4h6 x5h6) ∧ wba_Mo_nameIn_6 mc ms Post K a0 a1 k1 y_h6 s_h6 d_h6 e_h6 x2h6 x3h6 x4h6 x5h6 := ⟨_, fun _ _ _ _ _ _ _ _ h => h, hB_6 y_h6 s_h6 d_h6 e_h6 x2h6 x3h6 x4h6 x5h6 hJ⟩
      unfold wba_Mo_nameIn_6 at h
      obtain ⟨hd, h⟩ := h
      refine lv_iload G.1 G.2.1 d_Mo_nameIn_6 (lv_at hl 5 rfl) ?_
      refine lv_iload_n G.1 G.2.1 d_Mo_nameIn_8 rfl (lv_at hl 3 rfl) ?_
      refine lv_icmp_ge (tgt := 32) G.1 G.2.1 d_Mo_nameIn_9 (by decide) (fun c9 => ?_) (fun c9 => ?_)
      · skip
        have h := h.1 c9
        refine lv_iload G.1 G.2.1 d_Mo_nameIn_32 (lv_at hl 4 rfl) ?_
        refine lv_iload G.1 G.2.1 d_Mo_nameIn_34 (lv_at hl 4 rfl) ?_
        refine lv_bipush (v := 13) G.1 G.2.1 d_Mo_nameIn_36 (by decide) ?_
        refine lv_iushr G.1 G.2.1 d_Mo_nameIn_38 rfl ?_
        refine lv_ixor G.1 G.2.1 d_Mo_nameIn_39 ?_
        refine lv_sipush (v := 4095) G.1 G.2.1 d_Mo_nameIn_40 (by decide) ?_
        refine lv_iand G.1 G.2.1 d_Mo_nameIn_43 ?_
        refine lv_istore (lv' := [(5, .int ((x4h6 ^^^ ((x4h6.toUInt32 >>> ((13 : Int32).toUInt32 &&& Int32.toUInt32 31)).toInt32)) &&& 4095)), (0, .ref (ad a0)), (1, .ref (yP y_h6 a1 k1)), (2, .int x2h6), (3, .int x3h6), (4, .int x4h6)]) G.1 G.2.1 d_Mo_nameIn_44 hl (by decide) rfl (fun ls hl => ?_)
        refine W.eq (g2 := F0 m 46 ls []) rfl ?_
        refine lv_aload_n G.1 G.2.1 d_Mo_nameIn_46 rfl (lv_at hl 1 rfl) ?_
        refine ugf (v := .ref (yP y_h6 a0 3)) G hP h_a0 iMo rfl 3 (by decide) rfl q3067 rfl rfl d_Mo_nameIn_47 ?_
        refine lv_iload G.1 G.2.1 d_Mo_nameIn_50 (lv_at hl 0 rfl) ?_
        refine uiald G hP (kdp h_a0 rfl) (typ h_a0 rfl) h d_Mo_nameIn_52 (fun x_1 h => ?_)
        refine lv_istore (lv' := [(6, .int x_1), (5, .int ((x4h6 ^^^ ((x4h6.toUInt32 >>> ((13 : Int32).toUInt32 &&& Int32.toUInt32 31)).toInt32)) &&& 4095)), (0, .ref (ad a0)), (1, .ref (yP y_h6 a1 k1)), (2, .int x2h6), (3, .int x3h6), (4, .int x4h6)]) G.1 G.2.1 d_Mo_nameIn_53 hl (by decide) rfl (fun ls hl => ?_)
        unfold wla_Mo_nameIn_55 at h
        obtain ⟨I_55, μ_55, hI_55, hB_55⟩ := h
        have L_55 : ∀ (n_55 : Nat) (y_h55 : Ly) (s_h55 : St) (d_h55 e_h55 : Nat) (x2h55 : Int32) (x3h55 : Int32) (x5h55 : Int32) (x6h55 : Int32), μ_55 y_h55 s_h55 d_h55 e_h55 x2h55 x3h55 x5h55 x6h55 < n_55 → I_55 y_h55 s_h55 d_h55 e_h55 x2h55 x3h55 x5h55 x6h55 → ∀ (H : Heap) (locs : List Loc), va_P D CL (ws g ad y_h55 s_h55) H → va_D A (ws g ad y_h55 s_h55) → va_S A s.heap H locs → ∀ ls, lv_has ls 7 [(0, .ref (ad a0)), (1, .ref (yP y_h55 a1 k1)), (2, .int x2h55), (3, .int x3h55), (5, .int x5h55), (6, .int x6h55)] → W p l e (ra_Mo_nameIn mc ms) s m args below meth c H locs d_h55 e_h55 Q (F0 m 55 ls []) := by
          intro n_55
          induction n_55 with
          | zero => intro y_h55 s_h55 d_h55 e_h55 x2h55 x3h55 x5h55 x6h55 hμ; exact absurd hμ (Nat.not_lt_zero _)
          | succ n_55 ih_55 =>
            intro y_h55 s_h55 d_h55 e_h55 x2h55 x3h55 x5h55 x6h55 hμ_55 hJ H locs hP hD hS ls hl
            obtain ⟨K_55, hK_55, h⟩ : ∃ K : Ly → St → Nat → Nat → Int32 → Int32 → Int32 → Int32 → Prop, (∀ z1 z2 z3 z4 (t0 : Int32) (t1 : Int32) (t2 : Int32) (t3 : Int32), K z1 z2 z3 z4 t0 t1 t2 t3 → I_55 z1 z2 z3 z4 t0 t1 t2 t3 ∧ μ_55 z1 z2 z3 z4 t0 t1 t2 t3 < μ_55 y_h55 s_h55 d_h55 e_h55 x2h55 x3h55 x5h55 x6h55) ∧ wba_Mo_nameIn_55 mc ms Post K a0 a1 k1 y_h55 s_h55 d_h55 e_h55 x2h55 x3h55 x5h55 x6h55 := ⟨_, fun _ _ _ _ _ _ _ _ h => h, hB_55 y_h55 s_h55 d_h55 e_h55 x2h55 x3h55 x5h55 x6h55 hJ⟩
            unfold wba_Mo_nameIn_55 at h
            obtain ⟨hd, h⟩ := h
            refine lv_iload G.1 G.2.1 d_Mo_nameIn_55 (lv_at hl 5 rfl) ?_
            refine lv_if_le (tgt := 93) G.1 G.2.1 d_Mo_nameIn_57 (by decide) (fun c57 => ?_) (fun c57 => ?_)
            · skip
              have h := h.1 c57
              refine lv_aload_n G.1 G.2.1 d_Mo_nameIn_93 rfl (lv_at hl 0 rfl) ?_
              refine lv_aload_n G.1 G.2.1 d_Mo_nameIn_94 rfl (lv_at hl 0 rfl) ?_
              refine ugf (v := .ref (yP y_h55 a0 0)) G hP h_a0 iMo rfl 0 (by decide) rfl q3064 rfl rfl d_Mo_nameIn_95 ?_
              refine lv_bipush (v := 12) G.1 G.2.1 d_Mo_nameIn_98 (by decide) ?_
              refine lv_aload_n G.1 G.2.1 d_Mo_nameIn_100 rfl (lv_at hl 0 rfl) ?_
              refine ugf (v := .int (sV s_h55 a0 4)) G hP h_a0 iMo rfl 4 (by decide) rfl q3068 rfl rfl d_Mo_nameIn_101 ?_
              refine lv_iconst (v := 1) G.1 G.2.1 d_Mo_nameIn_104 (by decide) ?_
              refine lv_iadd G.1 G.2.1 d_Mo_nameIn_105 ?_
              refine lv_imul G.1 G.2.1 d_Mo_nameIn_106 ?_
              refine W.eq (g2 := F0 m 107 ls [.int (12 * ((sV s_h55 a0 4) + 1)), .ref (yP y_h55 a0 0), .ref (ad a0)]) rfl ?_
              refine uroom (C := RMo) (T := TMo) (N := 131) G hP hD hS (fun ws0 q1 q t n f sz he ht hn => c_Mo_roomy_k l D g ws0 q1 q t n f sz he ht hn) (fun ws0 q1 q t n f sz he hn ht hf => c_Mo_roomy_g l D g ws0 q1 q t n f sz he hn ht hf) w9_Mo_roomy q2591 ⟨Nat.le_of_ble_eq_true rfl, Nat.le_of_ble_eq_true rfl⟩ (Nat.le_refl _) (Nat.le_refl _) hd h_a0 rfl rfl iMo tMo tMo_ok nMo rfl (by decide) q3064 rfl rfl (fun _ => rfl) (fun _ => rfl) hl.1 (Nat.le_of_ble_eq_true rfl) h d_Mo_nameIn_107 d_Mo_nameIn_110 (fun y_2 s_3 d_4 e_5 H locs h hP hD hS => ?_)
              have hl := lv_sub (l' := [(0, .ref (ad a0)), (1, .ref (yP y_h55 a1 k1)), (2, .int x2h55), (3, .int x3h55), (5, .int x5h55)]) hl [0, 1, 2, 3, 4] rfl
              obtain ⟨hd, h⟩ := h
              obtain ⟨n_6, h⟩ := h
              rw [n_6] at hl
              refine lv_aload_n G.1 G.2.1 d_Mo_nameIn_113 rfl (lv_at hl 0 rfl) ?_
              refine lv_aload_n G.1 G.2.1 d_Mo_nameIn_114 rfl (lv_at hl 0 rfl) ?_
              refine ugf (v := .ref (yP y_2 a0 1)) G hP h_a0 iMo rfl 1 (by decide) rfl q3065 rfl rfl d_Mo_nameIn_115 ?_
              refine lv_aload_n G.1 G.2.1 d_Mo_nameIn_118 rfl (lv_at hl 0 rfl) ?_
              refine ugf (v := .int (sV s_3 a0 4)) G hP h_a0 iMo rfl 4 (by decide) rfl q3068 rfl rfl d_Mo_nameIn_119 ?_
              refine lv_iconst (v := 1) G.1 G.2.1 d_Mo_nameIn_122 (by decide) ?_
              refine lv_iadd G.1 G.2.1 d_Mo_nameIn_123 ?_
              refine uroom (C := RMo) (T := TMo) (N := 131) G hP hD hS (fun ws0 q1 q t n f sz he ht hn => c_Mo_roomy_k l D g ws0 q1 q t n f sz he ht hn) (fun ws0 q1 q t n f sz he hn ht hf => c_Mo_roomy_g l D g ws0 q1 q t n f sz he hn ht hf) w9_Mo_roomy q2591 ⟨Nat.le_of_ble_eq_true rfl, Nat.le_of_ble_eq_true rfl⟩ (Nat.le_refl _) (Nat.le_refl _) hd h_a0 rfl rfl iMo tMo tMo_ok nMo rfl (by decide) q3065 rfl rfl (fun _ => rfl) (fun _ => rfl) hl.1 (Nat.le_of_ble_eq_true rfl) h d_Mo_nameIn_124 d_Mo_nameIn_127 (fun y_7 s_8 d_9 e_10 H locs h hP hD hS => ?_)
              obtain ⟨hd, h⟩ := h
              obtain ⟨n_11, h⟩ := h
              rw [n_11] at hl
              refine lv_aload_n G.1 G.2.1 d_Mo_nameIn_130 rfl (lv_at hl 0 rfl) ?_
              refine lv_aload_n G.1 G.2.1 d_Mo_nameIn_131 rfl (lv_at hl 0 rfl) ?_
              refine ugf (v := .ref (yP y_7 a0 2)) G hP h_a0 iMo rfl 2 (by decide) rfl q3066 rfl rfl d_Mo_nameIn_132 ?_
              refine W.eq (g2 := F0 m 135 ls [.ref (yP y_7 a0 2), .ref (ad a0)]) rfl ?_
              refine lv_aload_n G.1 G.2.1 d_Mo_nameIn_135 rfl (lv_at hl 0 rfl) ?_
              refine ugf (v := .int (sV s_8 a0 4)) G hP h_a0 iMo rfl 4 (by decide) rfl q3068 rfl rfl d_Mo_nameIn_136 ?_
              refine lv_iconst (v := 1) G.1 G.2.1 d_Mo_nameIn_139 (by decide) ?_
              refine lv_iadd G.1 G.2.1 d_Mo_nameIn_140 ?_
              refine uroom (C := RMo) (T := TMo) (N := 131) G hP hD hS (fun ws0 q1 q t n f sz he ht hn => c_Mo_room_k l D g ws0 q1 q t n f sz he ht hn) (fun ws0 q1 q t n f sz he hn ht hf => c_Mo_room_g l D g ws0 q1 q t n f sz he hn ht hf) w9_Mo_room q2596 ⟨Nat.le_of_ble_eq_true rfl, Nat.le_of_ble_eq_true rfl⟩ (Nat.le_refl _) (Nat.le_refl _) hd h_a0 rfl rfl iMo tMo tMo_ok nMo rfl (by decide) q3066 rfl rfl (fun _ => rfl) (fun _ => rfl) hl.1 (Nat.le_of_ble_eq_true rfl) h d_Mo_nameIn_141 d_Mo_nameIn_144 (fun y_12 s_13 d_14 e_15 H locs h hP hD hS => ?_)
              obtain ⟨hd, h⟩ := h
              obtain ⟨n_16, h⟩ := h
              rw [n_16] at hl
              refine lv_iconst (v := 0) G.1 G.2.1 d_Mo_nameIn_147 (by decide) ?_
              refine lv_istore (lv' := [(6, .int 0), (0, .ref (ad a0)), (1, .ref (yP y_12 a1 k1)), (2, .int x2h55), (3, .int x3h55), (5, .int x5h55)]) G.1 G.2.1 d_Mo_nameIn_148 hl (by decide) rfl (fun ls hl => ?_)
              unfold wla_Mo_nameIn_150 at h
              obtain ⟨I_150, μ_150, hI_150, hB_150⟩ := h
              have L_150 : ∀ (n_150 : Nat) (y_h150 : Ly) (s_h150 : St) (d_h150 e_h150 : Nat) (x2h150 : Int32) (x3h150 : Int32) (x5h150 : Int32) (x6h150 : Int32), μ_150 y_h150 s_h150 d_h150 e_h150 x2h150 x3h150 x5h150 x6h150 < n_150 → I_150 y_h150 s_h150 d_h150 e_h150 x2h150 x3h150 x5h150 x6h150 → ∀ (H : Heap) (locs : List Loc), va_P D CL (ws g ad y_h150 s_h150) H → va_D A (ws g ad y_h150 s_h150) → va_S A s.heap H locs → ∀ ls, lv_has ls 7 [(0, .ref (ad a0)), (1, .ref (yP y_h150 a1 k1)), (2, .int x2h150), (3, .int x3h150), (5, .int x5h150), (6, .int x6h150)] → W p l e (ra_Mo_nameIn mc ms) s m args below meth c H locs d_h150 e_h150 Q (F0 m 150 ls []) := by
                intro n_150
                induction n_150 with
                | zero => intro y_h150 s_h150 d_h150 e_h150 x2h150 x3h150 x5h150 x6h150 hμ; exact absurd hμ (Nat.not_lt_zero _)
                | succ n_150 ih_150 =>
                  intro y_h150 s_h150 d_h150 e_h150 x2h150 x3h150 x5h150 x6h150 hμ_150 hJ H locs hP hD hS ls hl
                  obtain ⟨K_150, hK_150, h⟩ : ∃ K : Ly → St → Nat → Nat → Int32 → Int32 → Int32 → Int32 → Prop, (∀ z1 z2 z3 z4 (t0 : Int32) (t1 : Int32) (t2 : Int32) (t3 : Int32), K z1 z2 z3 z4 t0 t1 t2 t3 → I_150 z1 z2 z3 z4 t0 t1 t2 t3 ∧ μ_150 z1 z2 z3 z4 t0 t1 t2 t3 < μ_150 y_h150 s_h150 d_h150 e_h150 x2h150 x3h150 x5h150 x6h150) ∧ wba_Mo_nameIn_150 mc ms Post K a0 a1 k1 y_h150 s_h150 d_h150 e_h150 x2h150 x3h150 x5h150 x6h150 := ⟨_, fun _ _ _ _ _ _ _ _ h => h, hB_150 y_h150 s_h150 d_h150 e_h150 x2h150 x3h150 x5h150 x6h150 hJ⟩
                  unfold wba_Mo_nameIn_150 at h
                  obtain ⟨hd, h⟩ := h
                  refine lv_iload G.1 G.2.1 d_Mo_nameIn_150 (lv_at hl 5 rfl) ?_
                  refine lv_iload_n G.1 G.2.1 d_Mo_nameIn_152 rfl (lv_at hl 3 rfl) ?_
                  refine lv_icmp_ge (tgt := 183) G.1 G.2.1 d_Mo_nameIn_153 (by decide) (fun c153 => ?_) (fun c153 => ?_)
                  · skip
                    have h := h.1 c153
                    refine lv_aload_n G.1 G.2.1 d_Mo_nameIn_183 rfl (lv_at hl 0 rfl) ?_
                    refine ugf (v := .ref (yP y_h150 a0 1)) G hP h_a0 iMo rfl 1 (by decide) rfl q3065 rfl rfl d_Mo_nameIn_184 ?_
                    refine lv_aload_n G.1 G.2.1 d_Mo_nameIn_187 rfl (lv_at hl 0 rfl) ?_
                    refine ugf (v := .int (sV s_h150 a0 4)) G hP h_a0 iMo rfl 4 (by decide) rfl q3068 rfl rfl d_Mo_nameIn_188 ?_
                    refine lv_iload_n G.1 G.2.1 d_Mo_nameIn_191 rfl (lv_at hl 3 rfl) ?_
                    refine lv_i2b G.1 G.2.1 d_Mo_nameIn_192 rfl ?_
                    refine ubast G hP hD hS (kdp h_a0 rfl) (typ h_a0 rfl) h d_Mo_nameIn_193 (fun s_17 H locs h hP hD hS => ?_)
                    refine lv_aload_n G.1 G.2.1 d_Mo_nameIn_194 rfl (lv_at hl 0 rfl) ?_
                    refine W.eq (g2 := F0 m 195 ls [.ref (ad a0)]) rfl ?_
                    refine ugf (v := .ref (yP y_h150 a0 2)) G hP h_a0 iMo rfl 2 (by decide) rfl q3066 rfl rfl d_Mo_nameIn_195 ?_
                    refine lv_aload_n G.1 G.2.1 d_Mo_nameIn_198 rfl (lv_at hl 0 rfl) ?_
                    refine ugf (v := .int (sV s_17 a0 4)) G hP h_a0 iMo rfl 4 (by decide) rfl q3068 rfl rfl d_Mo_nameIn_199 ?_
                    refine lv_aload_n G.1 G.2.1 d_Mo_nameIn_202 rfl (lv_at hl 0 rfl) ?_
                    refine ugf (v := .ref (yP y_h150 a0 3)) G hP h_a0 iMo rfl 3 (by decide) rfl q3067 rfl rfl d_Mo_nameIn_203 ?_
                    refine lv_iload G.1 G.2.1 d_Mo_nameIn_206 (lv_at hl 4 rfl) ?_
                    refine uiald G hP (kdp h_a0 rfl) (typ h_a0 rfl) h d_Mo_nameIn_208 (fun x_18 h => ?_)
                    refine uiast G hP hD hS (kdp h_a0 rfl) (typ h_a0 rfl) h d_Mo_nameIn_209 (fun s_19 H locs h hP hD hS => ?_)
                    refine lv_aload_n G.1 G.2.1 d_Mo_nameIn_210 rfl (lv_at hl 0 rfl) ?_
                    refine lv_dup G.1 G.2.1 d_Mo_nameIn_211 rfl ?_
                    refine ugf (v := .int (sV s_19 a0 4)) G hP h_a0 iMo rfl 4 (by decide) rfl q3068 rfl rfl d_Mo_nameIn_212 ?_
                    refine lv_iconst (v := 1) G.1 G.2.1 d_Mo_nameIn_215 (by decide) ?_
                    refine W.eq (g2 := F0 m 216 ls [.int 1, .int (sV s_19 a0 4), .ref (ad a0)]) rfl ?_
                    refine lv_iadd G.1 G.2.1 d_Mo_nameIn_216 ?_
                    refine upf G hP hD hS h 4 putV h_a0 iMo tMo tMo_ok nMo rfl (by decide) rfl q3068 rfl rfl fV rfl rfl d_Mo_nameIn_217 (fun s_20 H locs h hP hD hS => ?_)
                    refine lv_aload_n G.1 G.2.1 d_Mo_nameIn_220 rfl (lv_at hl 0 rfl) ?_
                    refine ugf (v := .ref (yP y_h150 a0 3)) G hP h_a0 iMo rfl 3 (by decide) rfl q3067 rfl rfl d_Mo_nameIn_221 ?_
                    refine lv_iload G.1 G.2.1 d_Mo_nameIn_224 (lv_at hl 4 rfl) ?_
                    refine lv_aload_n G.1 G.2.1 d_Mo_nameIn_226 rfl (lv_at hl 0 rfl) ?_
                    refine ugf (v := .int (sV s_20 a0 4)) G hP h_a0 iMo rfl 4 (by decide) rfl q3068 rfl rfl d_Mo_nameIn_227 ?_
                    refine uiast G hP hD hS (kdp h_a0 rfl) (typ h_a0 rfl) h d_Mo_nameIn_230 (fun s_21 H locs h hP hD hS => ?_)
                    refine lv_aload_n G.1 G.2.1 d_Mo_nameIn_231 rfl (lv_at hl 0 rfl) ?_
                    refine ugf (v := .int (sV s_21 a0 4)) G hP h_a0 iMo rfl 4 (by decide) rfl q3068 rfl rfl d_Mo_nameIn_232 ?_
                    refine lv_iconst (v := 1) G.1 G.2.1 d_Mo_nameIn_235 (by decide) ?_
                    refine lv_isub G.1 G.2.1 d_Mo_nameIn_236 ?_
                    refine W.eq (g2 := F0 m 237 ls [.int ((sV s_21 a0 4) - 1)]) rfl ?_
                    exact hret _ (y_h150, s_21, d_h150, e_h150) _ _ _ _ _ ls h hP hD hS (Nat.le_refl _) (Nat.le_refl _) hd.1 hd.2 d_Mo_nameIn_237
                  · skip
                    have h := h.2 c153
                    refine lv_aload_n G.1 G.2.1 d_Mo_nameIn_156 rfl (lv_at hl 0 rfl) ?_
                    refine ugf (v := .ref (yP y_h150 a0 0)) G hP h_a0 iMo rfl 0 (by decide) rfl q3064 rfl rfl d_Mo_nameIn_157 ?_
                    refine lv_bipush (v := 12) G.1 G.2.1 d_Mo_nameIn_160 (by decide) ?_
                    refine lv_aload_n G.1 G.2.1 d_Mo_nameIn_162 rfl (lv_at hl 0 rfl) ?_
                    refine ugf (v := .int (sV s_h150 a0 4)) G hP h_a0 iMo rfl 4 (by decide) rfl q3068 rfl rfl d_Mo_nameIn_163 ?_
                    refine lv_imul G.1 G.2.1 d_Mo_nameIn_166 ?_
                    refine lv_iload G.1 G.2.1 d_Mo_nameIn_167 (lv_at hl 5 rfl) ?_
                    refine lv_iadd G.1 G.2.1 d_Mo_nameIn_169 ?_
                    refine W.eq (g2 := F0 m 170 ls [.int ((12 * (sV s_h150 a0 4)) + x6h150), .ref (yP y_h150 a0 0)]) rfl ?_
                    refine lv_aload_n G.1 G.2.1 d_Mo_nameIn_170 rfl (lv_at hl 1 rfl) ?_
                    refine lv_iload_n G.1 G.2.1 d_Mo_nameIn_171 rfl (lv_at hl 2 rfl) ?_
                    refine lv_iload G.1 G.2.1 d_Mo_nameIn_172 (lv_at hl 5 rfl) ?_
                    refine lv_iadd G.1 G.2.1 d_Mo_nameIn_174 ?_
                    refine ubald G hP h_a1.1 h_a1.2 h d_Mo_nameIn_175 (fun x_22 h => ?_)
                    refine ubast G hP hD hS (kdp h_a0 rfl) (typ h_a0 rfl) h d_Mo_nameIn_176 (fun s_23 H locs h hP hD hS => ?_)
                    refine lv_iinc (v := x6h150 + 1) (lv' := [(6, .int (x6h150 + 1)), (0, .ref (ad a0)), (1, .ref (yP y_h150 a1 k1)), (2, .int x2h150), (3, .int x3h150), (5, .int x5h150)]) G.1 G.2.1 d_Mo_nameIn_177 hl (k := 5) rfl rfl (by decide) rfl (fun ls hl => ?_)
                    refine lv_goto (tgt := 150) G.1 G.2.1 d_Mo_nameIn_180 (by decide) ?_
                    have h := hK_150 y_h150 s_23 d_h150 e_h150 x2h150 x3h150 x5h150 (x6h150 + 1) h
                    exact ih_150 y_h150 s_23 d_h150 e_h150 x2h150 x3h150 x5h150 (x6h150 + 1) (Nat.lt_of_lt_of_le h.2 (Nat.le_of_lt_succ hμ_150)) h.1 H locs hP hD hS ls (lv_sub hl [1, 2, 3, 4, 5, 0] rfl)
              exact L_150 _ y_12 s_13 d_14 e_15 x2h55 x3h55 x5h55 0 (Nat.lt_succ_self _) hI_150 H locs hP hD hS ls (lv_sub hl [1, 2, 3, 4, 5, 0] rfl)
            · skip
              have h := h.2 c57
              refine lv_aload_n G.1 G.2.1 d_Mo_nameIn_60 rfl (lv_at hl 0 rfl) ?_
              refine lv_iload G.1 G.2.1 d_Mo_nameIn_61 (lv_at hl 5 rfl) ?_
              refine lv_iconst (v := 1) G.1 G.2.1 d_Mo_nameIn_63 (by decide) ?_
              refine lv_isub G.1 G.2.1 d_Mo_nameIn_64 ?_
              refine lv_aload_n G.1 G.2.1 d_Mo_nameIn_65 rfl (lv_at hl 1 rfl) ?_
              refine lv_iload_n G.1 G.2.1 d_Mo_nameIn_66 rfl (lv_at hl 2 rfl) ?_
              refine lv_iload_n G.1 G.2.1 d_Mo_nameIn_67 rfl (lv_at hl 3 rfl) ?_
              refine ucVi (As := [.int (x6h55 - 1), .ref (yP y_h55 a1 k1), .int x2h55, .int x3h55]) (rest := []) G hP hD hS (cu_Mo_isName l D g ad y_h55 _ s_h55 a0 (x6h55 - 1) a1 k1 x2h55 x3h55 H.size h_a0 ⟨h_a1.1, h_a1.2⟩ h) w9_Mo_isName q2587 ⟨Nat.le_of_ble_eq_true rfl, Nat.le_of_ble_eq_true rfl⟩ rfl rfl h_a0 (q := (RMo, TMo, 131)) rfl rfl hl.1 rfl (Nat.le_of_ble_eq_true rfl) rfl hd d_Mo_nameIn_68 (fun r_24 s_25 H locs h hP hD hS => ?_)
              refine lv_if_eq (tgt := 79) G.1 G.2.1 d_Mo_nameIn_71 (by decide) (fun c71 => ?_) (fun c71 => ?_)
              · skip
                have h := h.1 c71
                refine W.eq (g2 := F0 m 79 ls []) rfl ?_
                refine lv_aload_n G.1 G.2.1 d_Mo_nameIn_79 rfl (lv_at hl 0 rfl) ?_
                refine ugf (v := .ref (yP y_h55 a0 2)) G hP h_a0 iMo rfl 2 (by decide) rfl q3066 rfl rfl d_Mo_nameIn_80 ?_
                refine lv_iload G.1 G.2.1 d_Mo_nameIn_83 (lv_at hl 5 rfl) ?_
                refine lv_iconst (v := 1) G.1 G.2.1 d_Mo_nameIn_85 (by decide) ?_
                refine lv_isub G.1 G.2.1 d_Mo_nameIn_86 ?_
                refine uiald G hP (kdp h_a0 rfl) (typ h_a0 rfl) h d_Mo_nameIn_87 (fun x_26 h => ?_)
                refine lv_istore (lv' := [(6, .int x_26), (0, .ref (ad a0)), (1, .ref (yP y_h55 a1 k1)), (2, .int x2h55), (3, .int x3h55), (5, .int x5h55)]) G.1 G.2.1 d_Mo_nameIn_88 hl (by decide) rfl (fun ls hl => ?_)
                refine lv_goto (tgt := 55) G.1 G.2.1 d_Mo_nameIn_90 (by decide) ?_
                have h := hK_55 y_h55 s_25 d_h55 e_h55 x2h55 x3h55 x5h55 x_26 h
                exact ih_55 y_h55 s_25 d_h55 e_h55 x2h55 x3h55 x5h55 x_26 (Nat.lt_of_lt_of_le h.2 (Nat.le_of_lt_succ hμ_55)) h.1 H locs hP hD hS ls (lv_sub hl [1, 2, 3, 4, 5, 0] rfl)
              · skip
                have h := h.2 c71
                refine W.eq (g2 := F0 m 74 ls []) rfl ?_
                refine lv_iload G.1 G.2.1 d_Mo_nameIn_74 (lv_at hl 5 rfl) ?_
                refine lv_iconst (v := 1) G.1 G.2.1 d_Mo_nameIn_76 (by decide) ?_
                refine lv_isub G.1 G.2.1 d_Mo_nameIn_77 ?_
                exact hret _ (y_h55, s_25, d_h55, e_h55) _ _ _ _ _ ls h hP hD hS (Nat.le_refl _) (Nat.le_refl _) hd.1 hd.2 d_Mo_nameIn_78
        exact L_55 _ y_h6 s_h6 d_h6 e_h6 x2h6 x3h6 ((x4h6 ^^^ ((x4h6.toUInt32 >>> ((13 : Int32).toUInt32 &&& Int32.toUInt32 31)).toInt32)) &&& 4095) x_1 (Nat.lt_succ_self _) hI_55 H locs hP hD hS ls (lv_sub hl [2, 3, 4, 5, 1, 0] rfl)
      · skip
        have h := h.2 c9
        refine lv_bipush (v := 31) G.1 G.2.1 d_Mo_nameIn_12 (by decide) ?_
        refine lv_iload G.1 G.2.1 d_Mo_nameIn_14 (lv_at hl 4 rfl) ?_
        refine lv_imul G.1 G.2.1 d_Mo_nameIn_16 ?_
        refine lv_aload_n G.1 G.2.1 d_Mo_nameIn_17 rfl (lv_at hl 1 rfl) ?_
        refine lv_iload_n G.1 G.2.1 d_Mo_nameIn_18 rfl (lv_at hl 2 rfl) ?_
        refine lv_iload G.1 G.2.1 d_Mo_nameIn_19 (lv_at hl 5 rfl) ?_
        refine lv_iadd G.1 G.2.1 d_Mo_nameIn_21 ?_
        refine ubald G hP h_a1.1 h_a1.2 h d_Mo_nameIn_22 (fun x_27 h => ?_)
        refine W.eq (g2 := F0 m 23 ls [.int x_27, .int (31 * x4h6)]) rfl ?_
        refine lv_iadd G.1 G.2.1 d_Mo_nameIn_23 ?_
        refine lv_istore (lv' := [(4, .int ((31 * x4h6) + x_27)), (0, .ref (ad a0)), (1, .ref (yP y_h6 a1 k1)), (2, .int x2h6), (3, .int x3h6), (5, .int x5h6)]) G.1 G.2.1 d_Mo_nameIn_24 hl (by decide) rfl (fun ls hl => ?_)
        refine lv_iinc (v := x5h6 + 1) (lv' := [(5, .int (x5h6 + 1)), (4, .int ((31 * x4h6) + x_27)), (0, .ref (ad a0)), (1, .ref (yP y_h6 a1 k1)), (2, .int x2h6), (3, .int x3h6)]) G.1 G.2.1 d_Mo_nameIn_26 hl (k := 5) rfl rfl (by decide) rfl (fun ls hl => ?_)
        refine lv_goto (tgt := 6) G.1 G.2.1 d_Mo_nameIn_29 (by decide) ?_
        have h := hK_6 y_h6 s_h6 d_h6 e_h6 x2h6 x3h6 ((31 * x4h6) + x_27) (x5h6 + 1) h
        exact ih_6 y_h6 s_h6 d_h6 e_h6 x2h6 x3h6 ((31 * x4h6) + x_27) (x5h6 + 1) (Nat.lt_of_lt_of_le h.2 (Nat.le_of_lt_succ hμ_6)) h.1 H locs hP hD hS ls (lv_sub hl [2, 3, 4, 5, 1, 0] rfl)
  exact L_6 _ y σ 0 0 v2 v3 v3 0 (Nat.lt_succ_self _) hI_6 H locs hP hD hS ls (lv_sub hl [2, 3, 4, 5, 1, 0] rfl)
theorem q2581 : Cond.methodLink "ClassWorksModel" 47 y_Js_length ∈ lw_ok := lw_okmem (List.mem_of_getElem? (i := 2581) (by decide +kernel)) rfl
theorem q3069 : Cond.fieldLink "ClassWorksModel" 53 "ClassWorksModel" "keyRow" "[B" ∈ lw_ok := lw_okmem (List.mem_of_getElem? (i := 3069) (by decide +kernel)) rfl
theorem q2583 : Cond.methodLink "ClassWorksModel" 60 y_Mo_nameIn ∈ lw_ok := lw_okmem (List.mem_of_getElem? (i := 2583) (by decide +kernel)) rfl
theorem q2586 : Cond.code y_Mo_nameIn b_Mo_nameIn 7 (some .int) ∈ lw_ok := lw_okmem (List.mem_of_getElem? (i := 2586) (by decide +kernel)) rfl
theorem q2585 : Cond.instanceMethod y_Mo_nameIn ∈ lw_ok := lw_okmem (List.mem_of_getElem? (i := 2585) (by decide +kernel)) rfl
theorem q169 : Cond.selects y_Mo_nameIn.cls y_Mo_nameIn y_Mo_nameIn ∈ lw_ok := lw_okmem (List.mem_of_getElem? (i := 169) (by decide +kernel)) rfl
theorem w9_Mo_nameIn : CWv y_Mo_nameIn b_Mo_nameIn 7 (some .int) 3 ∧ Cond.instanceMethod y_Mo_nameIn ∈ lw_ok ∧ Cond.selects y_Mo_nameIn.cls y_Mo_nameIn y_Mo_nameIn ∈ lw_ok := ⟨⟨q2586, q348, by decide +kernel, by decide +kernel, by decide +kernel⟩, q2585, q169⟩
def y_Mo_key : MethodName := ⟨"ClassWorksModel", "key", "(Ljava/lang/String;)I"⟩
abbrev b_Mo_key : ByteArray := prog_14_method_5_code
theorem q2582 : Cond.methodLink "ClassWorksModel" 56 y_Js_charAt ∈ lw_ok := lw_okmem (List.mem_of_getElem? (i := 2582) (by decide +kernel)) rfl
theorem d_Mo_key_0 : decode b_Mo_key 0 = .ok (.iconst 0, 1) := by decide +kernel
theorem d_Mo_key_1 : decode b_Mo_key 1 = .ok (.istore_n 2, 1) := by decide +kernel
theorem d_Mo_key_2 : decode b_Mo_key 2 = .ok (.iload_n 2, 1) := by decide +kernel
theorem d_Mo_key_3 : decode b_Mo_key 3 = .ok (.aload_n 1, 1) := by decide +kernel
theorem d_Mo_key_4 : decode b_Mo_key 4 = .ok (.invokevirtual 47, 3) := by decide +kernel
theorem d_Mo_key_7 : decode b_Mo_key 7 = .ok (.if_icmp .ge 21, 3) := by decide +kernel
theorem d_Mo_key_10 : decode b_Mo_key 10 = .ok (.aload_n 0, 1) := by decide +kernel
theorem d_Mo_key_11 : decode b_Mo_key 11 = .ok (.getfield 53, 3) := by decide +kernel
theorem d_Mo_key_14 : decode b_Mo_key 14 = .ok (.iload_n 2, 1) := by decide +kernel
theorem d_Mo_key_15 : decode b_Mo_key 15 = .ok (.aload_n 1, 1) := by decide +kernel
theorem d_Mo_key_16 : decode b_Mo_key 16 = .ok (.iload_n 2, 1) := by decide +kernel
theorem d_Mo_key_17 : decode b_Mo_key 17 = .ok (.invokevirtual 56, 3) := by decide +kernel
theorem d_Mo_key_20 : decode b_Mo_key 20 = .ok (.i2b, 1) := by decide +kernel
theorem d_Mo_key_21 : decode b_Mo_key 21 = .ok (.bastore, 1) := by decide +kernel
theorem d_Mo_key_22 : decode b_Mo_key 22 = .ok (.iinc 2 1, 3) := by decide +kernel
theorem d_Mo_key_25 : decode b_Mo_key 25 = .ok (.goto (-23), 3) := by decide +kernel
theorem d_Mo_key_28 : decode b_Mo_key 28 = .ok (.aload_n 0, 1) := by decide +kernel
theorem d_Mo_key_29 : decode b_Mo_key 29 = .ok (.aload_n 0, 1) := by decide +kernel
theorem d_Mo_key_30 : decode b_Mo_key 30 = .ok (.getfield 53, 3) := by decide +kernel
theorem d_Mo_key_33 : decode b_Mo_key 33 = .ok (.iconst 0, 1) := by decide +kernel
theorem d_Mo_key_34 : decode b_Mo_key 34 = .ok (.aload_n 1, 1) := by decide +kernel
theorem d_Mo_key_35 : decode b_Mo_key 35 = .ok (.invokevirtual 47, 3) := by decide +kernel
theorem d_Mo_key_38 : decode b_Mo_key 38 = .ok (.invokevirtual 60, 3) := by decide +kernel
theorem d_Mo_key_41 : decode b_Mo_key 41 = .ok (.ireturn, 1) := by decide +kernel
abbrev ra_Mo_key (mc ms : Nat) : Room := { frames := 4, cells := mc, slots := ms, locals := 176 }
def wba_Mo_key_2 (mc ms : Nat) (Post : Ly → St → Int32 → Nat → Nat → Prop) (K_2 : Ly → St → Nat → Nat → Int32 → Prop) (a0 : Nat) (n1 : Nat) (y_h2 : Ly) (s_h2 : St) (d_h2 e_h2 : Nat) (x2h2 : Int32) : Prop := (d_h2 ≤ mc ∧ e_h2 ≤ ms) ∧ (((nI (stb n1).length) ≤ x2h2 → ∃ mc_6 ms_7 : Nat, (d_h2 + mc_6 ≤ mc ∧ e_h2 + ms_7 ≤ ms) ∧ wa_Mo_nameIn mc_6 ms_7 y_h2 (fun (y_3 : Ly) (s_2 : St) (r_1 : Int32) (d_4 e_5 : Nat) => (d_h2 + d_4 ≤ mc ∧ e_h2 + e_5 ≤ ms) ∧ Post y_3 s_2 r_1 (d_h2 + d_4) (e_h2 + e_5)) s_h2 a0 a0 5 0 (nI (stb n1).length)) ∧ (¬ ((nI (stb n1).length) ≤ x2h2) → xH n1 x2h2 (fun x_9 : Int32 => xS y_h2 s_h2 a0 5 x2h2 (vp_nar .byte x_9.toInt8.toInt32) (fun s_10 : St => K_2 y_h2 s_10 d_h2 e_h2 (x2h2 + 1)))))
def wla_Mo_key_2 (mc ms : Nat) (Post : Ly → St → Int32 → Nat → Nat → Prop) (a0 : Nat) (n1 : Nat) (y_h2 : Ly) (s_h2 : St) (d_h2 e_h2 : Nat) (x2h2 : Int32) : Prop := ∃ (I : Ly → St → Nat → Nat → Int32 → Prop) (μ : Ly → St → Nat → Nat → Int32 → Nat), I y_h2 s_h2 d_h2 e_h2 x2h2 ∧ ∀ (u1 : Ly) (u2 : St) (u3 u4 : Nat) (t0 : Int32), I u1 u2 u3 u4 t0 → wba_Mo_key_2 mc ms Post (fun z1 z2 z3 z4 t0q => I z1 z2 z3 z4 t0q ∧ μ z1 z2 z3 z4 t0q < μ u1 u2 u3 u4 t0) a0 n1 u1 u2 u3 u4 t0
def wa_Mo_key (mc ms : Nat) (y : Ly) (Post : Ly → St → Int32 → Nat → Nat → Prop) (σ : St) (a0 : Nat) (n1 : Nat) : Prop := wla_Mo_key_2 mc ms Post a0 n1 y σ 0 0 0
set_option maxHeartbeats 4000000 in
set_option maxRecDepth 100000 in
theorem ca_Mo_key (l : Launch) (D : va_G) (g : Nat → ClassId) (F : Nat → SL) (sl : List SL) (hF : SOK F sl) (ad : Nat → Nat) (mc ms : Nat) (y : Ly) (Post : Ly → St → Int32 → Nat → Nat → Prop) (σ : St) (a0 : Nat) (n1 : Nat) (sz uz : Nat) (h_a0 : cl a0 = 14) (h_n1 : n1 < strT.length) (h : wa_Mo_key mc ms y Post σ a0 n1) : Met l y_Mo_key (mw y_Mo_key b_Mo_key 3 (some .int)) (ra_Mo_key mc ms) (PCu g D sl [.ref (ad a0), .ref (sk (F n1))] sz uz (ws g ad y σ)) (va_Qi (fun (r : Int32) (u : Ly × St × Nat × Nat) => Post u.1 u.2.1 r u.2.2.1 u.2.2.2) (QU D (va_A (ws g ad y σ) sz) (fun u => ws g ad u.1 u.2.1) sz uz (fun u => u.2.2.1) (fun u => u.2.2.2)) (va_A (ws g ad y σ) sz)) mc ms (va_A (ws g ad y σ) sz) := by
  refine ofIu (by decide +kernel) (Nat.le_of_ble_eq_true rfl) ?_
  intro p e s m args below meth c A Q ls H locs G hsz hP hD hS hl hret
  subst hsz
  have hl : lv_has ls 3 [(0, .ref (ad a0)), (1, .ref (sk (F n1)))] := hl
  have hd : 0 ≤ mc ∧ 0 ≤ ms := ⟨Nat.zero_le _, Nat.zero_le _⟩
  unfold wa_Mo_key at h
  refine lv_iconst (v := 0) G.1 G.2.1 d_Mo_key_0 (by decide) ?_
  refine lv_istore_n (lv' := [(2, .int 0), (0, .ref (ad a0)), (1, .ref (sk (F n1)))]) G.1 G.2.1 d_Mo_key_1 rfl hl (by decide) rfl (fun ls hl => ?_)
  unfold wla_Mo_key_2 at h
  obtain ⟨I_2, μ_2, hI_2, hB_2⟩ := h
  have L_2 : ∀ (n_2 : Nat) (y_h2 : Ly) (s_h2 : St) (d_h2 e_h2 : Nat) (x2h2 : Int32), μ_2 y_h2 s_h2 d_h2 e_h2 x2h2 < n_2 → I_2 y_h2 s_h2 d_h2 e_h2 x2h2 → ∀ (H : Heap) (locs : List Loc), va_P D CL (ws g ad y_h2 s_h2) H → va_D A (ws g ad y_h2 s_h2) → va_S A s.heap H locs → ∀ ls, lv_has ls 3 [(0, .ref (ad a0)), (1, .ref (sk (F n1))), (2, .int x2h2)] → W p l e (ra_Mo_key mc ms) s m args below meth c H locs d_h2 e_h2 Q (F0 m 2 ls []) := by
    intro n_2
    induction n_2 with
    | zero => intro y_h2 s_h2 d_h2 e_h2 x2h2 hμ; exact absurd hμ (Nat.not_lt_zero _)
    | succ n_2 ih_2 =>
      intro y_h2 s_h2 d_h2 e_h2 x2h2 hμ_2 hJ H locs hP hD hS ls hl
      obtain ⟨K_2, hK_2, h⟩ : ∃ K : Ly → St → Nat → Nat → Int32 → Prop, (∀ z1 z2 z3 z4 (t0 : Int32), K z1 z2 z3 z4 t0 → I_2 z1 z2 z3 z4 t0 ∧ μ_2 z1 z2 z3 z4 t0 < μ_2 y_h2 s_h2 d_h2 e_h2 x2h2) ∧ wba_Mo_key_2 mc ms Post K a0 n1 y_h2 s_h2 d_h2 e_h2 x2h2 := ⟨_, fun _ _ _ _ _ h => h, hB_2 y_h2 s_h2 d_h2 e_h2 x2h2 hJ⟩
      unfold wba_Mo_key_2 at h
      obtain ⟨hd, h⟩ := h
      refine lv_iload_n G.1 G.2.1 d_Mo_key_2 rfl (lv_at hl 2 rfl) ?_
      refine lv_aload_n G.1 G.2.1 d_Mo_key_3 rfl (lv_at hl 1 rfl) ?_
      refine ulen hF h_n1 G hP hD hS w9_Js_length q2581 ⟨Nat.le_of_ble_eq_true rfl, Nat.le_of_ble_eq_true rfl⟩ hl.1 (Nat.le_of_ble_eq_true rfl) hd d_Mo_key_4 (fun H locs hP hD hS => ?_)
      refine lv_icmp_ge (tgt := 28) G.1 G.2.1 d_Mo_key_7 (by decide) (fun c7 => ?_) (fun c7 => ?_)
      · skip
        have h := h.1 c7
        refine lv_aload_n G.1 G.2.1 d_Mo_key_28 rfl (lv_at hl 0 rfl) ?_
        refine lv_aload_n G.1 G.2.1 d_Mo_key_29 rfl (lv_at hl 0 rfl) ?_
        refine ugf (v := .ref (yP y_h2 a0 5)) G hP h_a0 iMo rfl 5 (by decide) rfl q3069 rfl rfl d_Mo_key_30 ?_
        refine lv_iconst (v := 0) G.1 G.2.1 d_Mo_key_33 (by decide) ?_
        refine lv_aload_n G.1 G.2.1 d_Mo_key_34 rfl (lv_at hl 1 rfl) ?_
        refine ulen hF h_n1 G hP hD hS w9_Js_length q2581 ⟨Nat.le_of_ble_eq_true rfl, Nat.le_of_ble_eq_true rfl⟩ hl.1 (Nat.le_of_ble_eq_true rfl) hd d_Mo_key_35 (fun H locs hP hD hS => ?_)
        obtain ⟨mc_6, ms_7, hr_8, h⟩ := h
        refine uaVi (As := [.ref (yP y_h2 a0 5), .int 0, .int (nI (stb n1).length)]) (rest := []) G hP hD hS (ca_Mo_nameIn l D g ad mc_6 ms_7 y_h2 _ s_h2 a0 a0 5 0 (nI (stb n1).length) H.size (us H) h_a0 ⟨(kdp h_a0 rfl), (typ h_a0 rfl)⟩ h) w9_Mo_nameIn q2583 ⟨Nat.le_of_ble_eq_true rfl, Nat.le_of_ble_eq_true rfl⟩ rfl rfl h_a0 (q := (RMo, TMo, 131)) rfl rfl hl.1 rfl (Nat.le_of_ble_eq_true rfl) rfl hr_8 d_Mo_key_38 (fun r_1 y_3 s_2 d_4 e_5 H locs h hP hD hS => ?_)
        have hl := lv_sub (l' := []) hl [] rfl
        obtain ⟨hd, h⟩ := h
        refine W.eq (g2 := F0 m 41 ls [.int r_1]) rfl ?_
        exact hret _ (y_3, s_2, d_h2 + d_4, e_h2 + e_5) _ _ _ _ _ ls h hP hD hS (Nat.le_refl _) (Nat.le_refl _) hd.1 hd.2 d_Mo_key_41
      · skip
        have h := h.2 c7
        refine lv_aload_n G.1 G.2.1 d_Mo_key_10 rfl (lv_at hl 0 rfl) ?_
        refine ugf (v := .ref (yP y_h2 a0 5)) G hP h_a0 iMo rfl 5 (by decide) rfl q3069 rfl rfl d_Mo_key_11 ?_
        refine lv_iload_n G.1 G.2.1 d_Mo_key_14 rfl (lv_at hl 2 rfl) ?_
        refine lv_aload_n G.1 G.2.1 d_Mo_key_15 rfl (lv_at hl 1 rfl) ?_
        refine lv_iload_n G.1 G.2.1 d_Mo_key_16 rfl (lv_at hl 2 rfl) ?_
        refine uchar hF h_n1 G hP hD hS h w9_Js_charAt q2582 ⟨Nat.le_of_ble_eq_true rfl, Nat.le_of_ble_eq_true rfl⟩ hl.1 (Nat.le_of_ble_eq_true rfl) hd d_Mo_key_17 (fun x_9 H locs h hP hD hS => ?_)
        refine lv_i2b G.1 G.2.1 d_Mo_key_20 rfl ?_
        refine W.eq (g2 := F0 m 21 ls [.int x_9.toInt8.toInt32, .int x2h2, .ref (yP y_h2 a0 5)]) rfl ?_
        refine ubast G hP hD hS (kdp h_a0 rfl) (typ h_a0 rfl) h d_Mo_key_21 (fun s_10 H locs h hP hD hS => ?_)
        refine lv_iinc (v := x2h2 + 1) (lv' := [(2, .int (x2h2 + 1)), (0, .ref (ad a0)), (1, .ref (sk (F n1)))]) G.1 G.2.1 d_Mo_key_22 hl (k := 2) rfl rfl (by decide) rfl (fun ls hl => ?_)
        refine lv_goto (tgt := 2) G.1 G.2.1 d_Mo_key_25 (by decide) ?_
        have h := hK_2 y_h2 s_10 d_h2 e_h2 (x2h2 + 1) h
        exact ih_2 y_h2 s_10 d_h2 e_h2 (x2h2 + 1) (Nat.lt_of_lt_of_le h.2 (Nat.le_of_lt_succ hμ_2)) h.1 H locs hP hD hS ls (lv_sub hl [1, 2, 0] rfl)
  exact L_2 _ y σ 0 0 0 (Nat.lt_succ_self _) hI_2 H locs hP hD hS ls (lv_sub hl [1, 2, 0] rfl)
def y_Mo_keys : MethodName := ⟨"ClassWorksModel", "keys", "(Ljava/lang/String;)I"⟩
abbrev b_Mo_keys : ByteArray := prog_14_method_6_code
theorem d_Mo_keys_0 : decode b_Mo_keys 0 = .ok (.iconst (-1), 1) := by decide +kernel
theorem d_Mo_keys_1 : decode b_Mo_keys 1 = .ok (.istore_n 2, 1) := by decide +kernel
theorem d_Mo_keys_2 : decode b_Mo_keys 2 = .ok (.iconst 0, 1) := by decide +kernel
theorem d_Mo_keys_3 : decode b_Mo_keys 3 = .ok (.istore_n 3, 1) := by decide +kernel
theorem d_Mo_keys_4 : decode b_Mo_keys 4 = .ok (.iconst 0, 1) := by decide +kernel
theorem d_Mo_keys_5 : decode b_Mo_keys 5 = .ok (.istore 4, 2) := by decide +kernel
theorem d_Mo_keys_7 : decode b_Mo_keys 7 = .ok (.iload 4, 2) := by decide +kernel
theorem d_Mo_keys_9 : decode b_Mo_keys 9 = .ok (.aload_n 1, 1) := by decide +kernel
theorem d_Mo_keys_10 : decode b_Mo_keys 10 = .ok (.invokevirtual 47, 3) := by decide +kernel
theorem d_Mo_keys_13 : decode b_Mo_keys 13 = .ok (.if_icmp .ge 64, 3) := by decide +kernel
theorem d_Mo_keys_16 : decode b_Mo_keys 16 = .ok (.aload_n 1, 1) := by decide +kernel
theorem d_Mo_keys_17 : decode b_Mo_keys 17 = .ok (.iload 4, 2) := by decide +kernel
theorem d_Mo_keys_19 : decode b_Mo_keys 19 = .ok (.invokevirtual 56, 3) := by decide +kernel
theorem d_Mo_keys_22 : decode b_Mo_keys 22 = .ok (.istore 5, 2) := by decide +kernel
theorem d_Mo_keys_24 : decode b_Mo_keys 24 = .ok (.iload 5, 2) := by decide +kernel
theorem d_Mo_keys_26 : decode b_Mo_keys 26 = .ok (.bipush 32, 2) := by decide +kernel
theorem d_Mo_keys_28 : decode b_Mo_keys 28 = .ok (.if_icmp .eq 18, 3) := by decide +kernel
theorem d_Mo_keys_31 : decode b_Mo_keys 31 = .ok (.aload_n 0, 1) := by decide +kernel
theorem d_Mo_keys_32 : decode b_Mo_keys 32 = .ok (.getfield 53, 3) := by decide +kernel
theorem d_Mo_keys_35 : decode b_Mo_keys 35 = .ok (.iload_n 3, 1) := by decide +kernel
theorem d_Mo_keys_36 : decode b_Mo_keys 36 = .ok (.iload 5, 2) := by decide +kernel
theorem d_Mo_keys_38 : decode b_Mo_keys 38 = .ok (.i2b, 1) := by decide +kernel
theorem d_Mo_keys_39 : decode b_Mo_keys 39 = .ok (.bastore, 1) := by decide +kernel
theorem d_Mo_keys_40 : decode b_Mo_keys 40 = .ok (.iinc 3 1, 3) := by decide +kernel
theorem d_Mo_keys_43 : decode b_Mo_keys 43 = .ok (.goto 28, 3) := by decide +kernel
theorem d_Mo_keys_46 : decode b_Mo_keys 46 = .ok (.aload_n 0, 1) := by decide +kernel
theorem d_Mo_keys_47 : decode b_Mo_keys 47 = .ok (.aload_n 0, 1) := by decide +kernel
theorem d_Mo_keys_48 : decode b_Mo_keys 48 = .ok (.getfield 53, 3) := by decide +kernel
theorem d_Mo_keys_51 : decode b_Mo_keys 51 = .ok (.iconst 0, 1) := by decide +kernel
theorem d_Mo_keys_52 : decode b_Mo_keys 52 = .ok (.iload_n 3, 1) := by decide +kernel
theorem d_Mo_keys_53 : decode b_Mo_keys 53 = .ok (.invokevirtual 60, 3) := by decide +kernel
theorem d_Mo_keys_56 : decode b_Mo_keys 56 = .ok (.istore 6, 2) := by decide +kernel
theorem d_Mo_keys_58 : decode b_Mo_keys 58 = .ok (.iload_n 2, 1) := by decide +kernel
theorem d_Mo_keys_59 : decode b_Mo_keys 59 = .ok (.ifCond .ge 8, 3) := by decide +kernel
theorem d_Mo_keys_62 : decode b_Mo_keys 62 = .ok (.iload 6, 2) := by decide +kernel
theorem d_Mo_keys_64 : decode b_Mo_keys 64 = .ok (.goto 4, 3) := by decide +kernel
theorem d_Mo_keys_67 : decode b_Mo_keys 67 = .ok (.iload_n 2, 1) := by decide +kernel
theorem d_Mo_keys_68 : decode b_Mo_keys 68 = .ok (.istore_n 2, 1) := by decide +kernel
theorem d_Mo_keys_69 : decode b_Mo_keys 69 = .ok (.iconst 0, 1) := by decide +kernel
theorem d_Mo_keys_70 : decode b_Mo_keys 70 = .ok (.istore_n 3, 1) := by decide +kernel
theorem d_Mo_keys_71 : decode b_Mo_keys 71 = .ok (.iinc 4 1, 3) := by decide +kernel
theorem d_Mo_keys_74 : decode b_Mo_keys 74 = .ok (.goto (-67), 3) := by decide +kernel
theorem d_Mo_keys_77 : decode b_Mo_keys 77 = .ok (.iload_n 2, 1) := by decide +kernel
theorem d_Mo_keys_78 : decode b_Mo_keys 78 = .ok (.ireturn, 1) := by decide +kernel
abbrev ra_Mo_keys (mc ms : Nat) : Room := { frames := 4, cells := mc, slots := ms, locals := 176 }
def wja_Mo_keys_71 (mc ms : Nat) (Post : Ly → St → Int32 → Nat → Nat → Prop) (K_7 : Ly → St → Nat → Nat → Int32 → Int32 → Int32 → Prop) (a0 : Nat) (n1 : Nat) (y_j71 : Ly) (s_j71 : St) (d_j71 e_j71 : Nat) (x2j71 : Int32) (x3j71 : Int32) (x4j71 : Int32) : Prop := (d_j71 ≤ mc ∧ e_j71 ≤ ms) ∧ K_7 y_j71 s_j71 d_j71 e_j71 x2j71 x3j71 (x4j71 + 1)
def wja_Mo_keys_68 (mc ms : Nat) (Post : Ly → St → Int32 → Nat → Nat → Prop) (K_7 : Ly → St → Nat → Nat → Int32 → Int32 → Int32 → Prop) (a0 : Nat) (n1 : Nat) (y_j68 : Ly) (s_j68 : St) (d_j68 e_j68 : Nat) (x4j68 : Int32) (z0j68 : Int32) : Prop := (d_j68 ≤ mc ∧ e_j68 ≤ ms) ∧ wja_Mo_keys_71 mc ms Post K_7 a0 n1 y_j68 s_j68 d_j68 e_j68 z0j68 0 x4j68
def wba_Mo_keys_7 (mc ms : Nat) (Post : Ly → St → Int32 → Nat → Nat → Prop) (K_7 : Ly → St → Nat → Nat → Int32 → Int32 → Int32 → Prop) (a0 : Nat) (n1 : Nat) (y_h7 : Ly) (s_h7 : St) (d_h7 e_h7 : Nat) (x2h7 : Int32) (x3h7 : Int32) (x4h7 : Int32) : Prop := (d_h7 ≤ mc ∧ e_h7 ≤ ms) ∧ (((nI (stb n1).length) ≤ x4h7 → Post y_h7 s_h7 x2h7 d_h7 e_h7) ∧ (¬ ((nI (stb n1).length) ≤ x4h7) → xH n1 x4h7 (fun x_1 : Int32 => ((x_1 = 32 → ∃ mc_7 ms_8 : Nat, (d_h7 + mc_7 ≤ mc ∧ e_h7 + ms_8 ≤ ms) ∧ wa_Mo_nameIn mc_7 ms_8 y_h7 (fun (y_4 : Ly) (s_3 : St) (r_2 : Int32) (d_5 e_6 : Nat) => (d_h7 + d_5 ≤ mc ∧ e_h7 + e_6 ≤ ms) ∧ ((0 ≤ x2h7 → wja_Mo_keys_68 mc ms Post K_7 a0 n1 y_4 s_3 (d_h7 + d_5) (e_h7 + e_6) x4h7 x2h7) ∧ (¬ (0 ≤ x2h7) → wja_Mo_keys_68 mc ms Post K_7 a0 n1 y_4 s_3 (d_h7 + d_5) (e_h7 + e_6) x4h7 r_2))) s_h7 a0 a0 5 0 x3h7) ∧ (¬ (x_1 = 32) → xS y_h7 s_h7 a0 5 x3h7 (vp_nar .byte x_1.toInt8.toInt32) (fun s_10 : St => wja_Mo_keys_71 mc ms Post K_7 a0 n1 y_h7 s_10 d_h7 e_h7 x2h7 (x3h7 + 1) x4h7))))))
def wla_Mo_keys_7 (mc ms : Nat) (Post : Ly → St → Int32 → Nat → Nat → Prop) (a0 : Nat) (n1 : Nat) (y_h7 : Ly) (s_h7 : St) (d_h7 e_h7 : Nat) (x2h7 : Int32) (x3h7 : Int32) (x4h7 : Int32) : Prop := ∃ (I : Ly → St → Nat → Nat → Int32 → Int32 → Int32 → Prop) (μ : Ly → St → Nat → Nat → Int32 → Int32 → Int32 → Nat), I y_h7 s_h7 d_h7 e_h7 x2h7 x3h7 x4h7 ∧ ∀ (u1 : Ly) (u2 : St) (u3 u4 : Nat) (t0 : Int32) (t1 : Int32) (t2 : Int32), I u1 u2 u3 u4 t0 t1 t2 → wba_Mo_keys_7 mc ms Post (fun z1 z2 z3 z4 t0q t1q t2q => I z1 z2 z3 z4 t0q t1q t2q ∧ μ z1 z2 z3 z4 t0q t1q t2q < μ u1 u2 u3 u4 t0 t1 t2) a0 n1 u1 u2 u3 u4 t0 t1 t2
def wa_Mo_keys (mc ms : Nat) (y : Ly) (Post : Ly → St → Int32 → Nat → Nat → Prop) (σ : St) (a0 : Nat) (n1 : Nat) : Prop := wla_Mo_keys_7 mc ms Post a0 n1 y σ 0 0 (-1) 0 0
set_option maxHeartbeats 4000000 in
set_option maxRecDepth 100000 in
theorem ca_Mo_keys (l : Launch) (D : va_G) (g : Nat → ClassId) (F : Nat → SL) (sl : List SL) (hF : SOK F sl) (ad : Nat → Nat) (mc ms : Nat) (y : Ly) (Post : Ly → St → Int32 → Nat → Nat → Prop) (σ : St) (a0 : Nat) (n1 : Nat) (sz uz : Nat) (h_a0 : cl a0 = 14) (h_n1 : n1 < strT.length) (h : wa_Mo_keys mc ms y Post σ a0 n1) : Met l y_Mo_keys (mw y_Mo_keys b_Mo_keys 7 (some .int)) (ra_Mo_keys mc ms) (PCu g D sl [.ref (ad a0), .ref (sk (F n1))] sz uz (ws g ad y σ)) (va_Qi (fun (r : Int32) (u : Ly × St × Nat × Nat) => Post u.1 u.2.1 r u.2.2.1 u.2.2.2) (QU D (va_A (ws g ad y σ) sz) (fun u => ws g ad u.1 u.2.1) sz uz (fun u => u.2.2.1) (fun u => u.2.2.2)) (va_A (ws g ad y σ) sz)) mc ms (va_A (ws g ad y σ) sz) := by
  refine ofIu (by decide +kernel) (Nat.le_of_ble_eq_true rfl) ?_
  intro p e s m args below meth c A Q ls H locs G hsz hP hD hS hl hret
  subst hsz
  have hl : lv_has ls 7 [(0, .ref (ad a0)), (1, .ref (sk (F n1)))] := hl
  have hd : 0 ≤ mc ∧ 0 ≤ ms := ⟨Nat.zero_le _, Nat.zero_le _⟩
  unfold wa_Mo_keys at h
  refine lv_iconst (v := (-1)) G.1 G.2.1 d_Mo_keys_0 (by decide) ?_
  refine lv_istore_n (lv' := [(2, .int (-1)), (0, .ref (ad a0)), (1, .ref (sk (F n1)))]) G.1 G.2.1 d_Mo_keys_1 rfl hl (by decide) rfl (fun ls hl => ?_)
  refine lv_iconst (v := 0) G.1 G.2.1 d_Mo_keys_2 (by decide) ?_
  refine lv_istore_n (lv' := [(3, .int 0), (2, .int (-1)), (0, .ref (ad a0)), (1, .ref (sk (F n1)))]) G.1 G.2.1 d_Mo_keys_3 rfl hl (by decide) rfl (fun ls hl => ?_)
  refine lv_iconst (v := 0) G.1 G.2.1 d_Mo_keys_4 (by decide) ?_
  refine lv_istore (lv' := [(4, .int 0), (3, .int 0), (2, .int (-1)), (0, .ref (ad a0)), (1, .ref (sk (F n1)))]) G.1 G.2.1 d_Mo_keys_5 hl (by decide) rfl (fun ls hl => ?_)
  unfold wla_Mo_keys_7 at h
  obtain ⟨I_7, μ_7, hI_7, hB_7⟩ := h
  have L_7 : ∀ (n_7 : Nat) (y_h7 : Ly) (s_h7 : St) (d_h7 e_h7 : Nat) (x2h7 : Int32) (x3h7 : Int32) (x4h7 : Int32), μ_7 y_h7 s_h7 d_h7 e_h7 x2h7 x3h7 x4h7 < n_7 → I_7 y_h7 s_h7 d_h7 e_h7 x2h7 x3h7 x4h7 → ∀ (H : Heap) (locs : List Loc), va_P D CL (ws g ad y_h7 s_h7) H → va_D A (ws g ad y_h7 s_h7) → va_S A s.heap H locs → ∀ ls, lv_has ls 7 [(0, .ref (ad a0)), (1, .ref (sk (F n1))), (2, .int x2h7), (3, .int x3h7), (4, .int x4h7)] → W p l e (ra_Mo_keys mc ms) s m args below meth c H locs d_h7 e_h7 Q (F0 m 7 ls []) := by
    intro n_7
    induction n_7 with
    | zero => intro y_h7 s_h7 d_h7 e_h7 x2h7 x3h7 x4h7 hμ; exact absurd hμ (Nat.not_lt_zero _)
    | succ n_7 ih_7 =>
      intro y_h7 s_h7 d_h7 e_h7 x2h7 x3h7 x4h7 hμ_7 hJ H locs hP hD hS ls hl
      obtain ⟨K_7, hK_7, h⟩ : ∃ K : Ly → St → Nat → Nat → Int32 → Int32 → Int32 → Prop, (∀ z1 z2 z3 z4 (t0 : Int32) (t1 : Int32) (t2 : Int32), K z1 z2 z3 z4 t0 t1 t2 → I_7 z1 z2 z3 z4 t0 t1 t2 ∧ μ_7 z1 z2 z3 z4 t0 t1 t2 < μ_7 y_h7 s_h7 d_h7 e_h7 x2h7 x3h7 x4h7) ∧ wba_Mo_keys_7 mc ms Post K a0 n1 y_h7 s_h7 d_h7 e_h7 x2h7 x3h7 x4h7 := ⟨_, fun _ _ _ _ _ _ _ h => h, hB_7 y_h7 s_h7 d_h7 e_h7 x2h7 x3h7 x4h7 hJ⟩
      unfold wba_Mo_keys_7 at h
      obtain ⟨hd, h⟩ := h
      refine lv_iload G.1 G.2.1 d_Mo_keys_7 (lv_at hl 4 rfl) ?_
      refine lv_aload_n G.1 G.2.1 d_Mo_keys_9 rfl (lv_at hl 1 rfl) ?_
      refine ulen hF h_n1 G hP hD hS w9_Js_length q2581 ⟨Nat.le_of_ble_eq_true rfl, Nat.le_of_ble_eq_true rfl⟩ hl.1 (Nat.le_of_ble_eq_true rfl) hd d_Mo_keys_10 (fun H locs hP hD hS => ?_)
      refine lv_icmp_ge (tgt := 77) G.1 G.2.1 d_Mo_keys_13 (by decide) (fun c13 => ?_) (fun c13 => ?_)
      · skip
        have h := h.1 c13
        refine lv_iload_n G.1 G.2.1 d_Mo_keys_77 rfl (lv_at hl 2 rfl) ?_
        exact hret _ (y_h7, s_h7, d_h7, e_h7) _ _ _ _ _ ls h hP hD hS (Nat.le_refl _) (Nat.le_refl _) hd.1 hd.2 d_Mo_keys_78
      · skip
        have h := h.2 c13
        refine lv_aload_n G.1 G.2.1 d_Mo_keys_16 rfl (lv_at hl 1 rfl) ?_
        refine lv_iload G.1 G.2.1 d_Mo_keys_17 (lv_at hl 4 rfl) ?_
        refine uchar hF h_n1 G hP hD hS h w9_Js_charAt q2582 ⟨Nat.le_of_ble_eq_true rfl, Nat.le_of_ble_eq_true rfl⟩ hl.1 (Nat.le_of_ble_eq_true rfl) hd d_Mo_keys_19 (fun x_1 H locs h hP hD hS => ?_)
        refine lv_istore (lv' := [(5, .int x_1), (0, .ref (ad a0)), (1, .ref (sk (F n1))), (2, .int x2h7), (3, .int x3h7), (4, .int x4h7)]) G.1 G.2.1 d_Mo_keys_22 hl (by decide) rfl (fun ls hl => ?_)
        refine lv_iload G.1 G.2.1 d_Mo_keys_24 (lv_at hl 0 rfl) ?_
        refine lv_bipush (v := 32) G.1 G.2.1 d_Mo_keys_26 (by decide) ?_
        have J_71 : ∀ (y_j71 : Ly) (s_j71 : St) (d_j71 e_j71 : Nat) (x2j71 : Int32) (x3j71 : Int32) (x4j71 : Int32) (H : Heap) (locs : List Loc), wja_Mo_keys_71 mc ms Post K_7 a0 n1 y_j71 s_j71 d_j71 e_j71 x2j71 x3j71 x4j71 → va_P D CL (ws g ad y_j71 s_j71) H → va_D A (ws g ad y_j71 s_j71) → va_S A s.heap H locs → ∀ ls, lv_has ls 7 [(0, .ref (ad a0)), (1, .ref (sk (F n1))), (2, .int x2j71), (3, .int x3j71), (4, .int x4j71)] → W p l e (ra_Mo_keys mc ms) s m args below meth c H locs d_j71 e_j71 Q (F0 m 71 ls []) := by
          intro y_j71 s_j71 d_j71 e_j71 x2j71 x3j71 x4j71 H locs h hP hD hS ls hl
          unfold wja_Mo_keys_71 at h
          obtain ⟨hd, h⟩ := h
          refine lv_iinc (v := x4j71 + 1) (lv' := [(4, .int (x4j71 + 1)), (0, .ref (ad a0)), (1, .ref (sk (F n1))), (2, .int x2j71), (3, .int x3j71)]) G.1 G.2.1 d_Mo_keys_71 hl (k := 4) rfl rfl (by decide) rfl (fun ls hl => ?_)
          refine lv_goto (tgt := 7) G.1 G.2.1 d_Mo_keys_74 (by decide) ?_
          have h := hK_7 y_j71 s_j71 d_j71 e_j71 x2j71 x3j71 (x4j71 + 1) h
          exact ih_7 y_j71 s_j71 d_j71 e_j71 x2j71 x3j71 (x4j71 + 1) (Nat.lt_of_lt_of_le h.2 (Nat.le_of_lt_succ hμ_7)) h.1 H locs hP hD hS ls (lv_sub hl [1, 2, 3, 4, 0] rfl)
        refine lv_icmp_eq (tgt := 46) G.1 G.2.1 d_Mo_keys_28 (by decide) (fun c28 => ?_) (fun c28 => ?_)
        · skip
          have h := h.1 c28
          refine W.eq (g2 := F0 m 46 ls []) rfl ?_
          refine lv_aload_n G.1 G.2.1 d_Mo_keys_46 rfl (lv_at hl 1 rfl) ?_
          refine lv_aload_n G.1 G.2.1 d_Mo_keys_47 rfl (lv_at hl 1 rfl) ?_
          refine ugf (v := .ref (yP y_h7 a0 5)) G hP h_a0 iMo rfl 5 (by decide) rfl q3069 rfl rfl d_Mo_keys_48 ?_
          refine lv_iconst (v := 0) G.1 G.2.1 d_Mo_keys_51 (by decide) ?_
          refine lv_iload_n G.1 G.2.1 d_Mo_keys_52 rfl (lv_at hl 4 rfl) ?_
          obtain ⟨mc_7, ms_8, hr_9, h⟩ := h
          refine uaVi (As := [.ref (yP y_h7 a0 5), .int 0, .int x3h7]) (rest := []) G hP hD hS (ca_Mo_nameIn l D g ad mc_7 ms_8 y_h7 _ s_h7 a0 a0 5 0 x3h7 H.size (us H) h_a0 ⟨(kdp h_a0 rfl), (typ h_a0 rfl)⟩ h) w9_Mo_nameIn q2583 ⟨Nat.le_of_ble_eq_true rfl, Nat.le_of_ble_eq_true rfl⟩ rfl rfl h_a0 (q := (RMo, TMo, 131)) rfl rfl hl.1 rfl (Nat.le_of_ble_eq_true rfl) rfl hr_9 d_Mo_keys_53 (fun r_2 y_4 s_3 d_5 e_6 H locs h hP hD hS => ?_)
          have hl := lv_sub (l' := [(0, .ref (ad a0)), (1, .ref (sk (F n1))), (2, .int x2h7), (4, .int x4h7)]) hl [1, 2, 3, 5] rfl
          obtain ⟨hd, h⟩ := h
          refine lv_istore (lv' := [(6, .int r_2), (0, .ref (ad a0)), (1, .ref (sk (F n1))), (2, .int x2h7), (4, .int x4h7)]) G.1 G.2.1 d_Mo_keys_56 hl (by decide) rfl (fun ls hl => ?_)
          refine lv_iload_n G.1 G.2.1 d_Mo_keys_58 rfl (lv_at hl 3 rfl) ?_
          have J_68 : ∀ (y_j68 : Ly) (s_j68 : St) (d_j68 e_j68 : Nat) (x4j68 : Int32) (z0j68 : Int32) (H : Heap) (locs : List Loc), wja_Mo_keys_68 mc ms Post K_7 a0 n1 y_j68 s_j68 d_j68 e_j68 x4j68 z0j68 → va_P D CL (ws g ad y_j68 s_j68) H → va_D A (ws g ad y_j68 s_j68) → va_S A s.heap H locs → ∀ ls, lv_has ls 7 [(0, .ref (ad a0)), (1, .ref (sk (F n1))), (4, .int x4j68)] → W p l e (ra_Mo_keys mc ms) s m args below meth c H locs d_j68 e_j68 Q (F0 m 68 ls [.int z0j68]) := by
            intro y_j68 s_j68 d_j68 e_j68 x4j68 z0j68 H locs h hP hD hS ls hl
            unfold wja_Mo_keys_68 at h
            obtain ⟨hd, h⟩ := h
            refine lv_istore_n (lv' := [(2, .int z0j68), (0, .ref (ad a0)), (1, .ref (sk (F n1))), (4, .int x4j68)]) G.1 G.2.1 d_Mo_keys_68 rfl hl (by decide) rfl (fun ls hl => ?_)
            refine lv_iconst (v := 0) G.1 G.2.1 d_Mo_keys_69 (by decide) ?_
            refine lv_istore_n (lv' := [(3, .int 0), (2, .int z0j68), (0, .ref (ad a0)), (1, .ref (sk (F n1))), (4, .int x4j68)]) G.1 G.2.1 d_Mo_keys_70 rfl hl (by decide) rfl (fun ls hl => ?_)
            exact J_71 y_j68 s_j68 d_j68 e_j68 z0j68 0 x4j68 H locs h hP hD hS ls (lv_sub hl [2, 3, 1, 0, 4] rfl)
          refine lv_if_ge (tgt := 67) G.1 G.2.1 d_Mo_keys_59 (by decide) (fun c59 => ?_) (fun c59 => ?_)
          · skip
            have h := h.1 c59
            refine lv_iload_n G.1 G.2.1 d_Mo_keys_67 rfl (lv_at hl 3 rfl) ?_
            exact J_68 y_4 s_3 (d_h7 + d_5) (e_h7 + e_6) x4h7 x2h7 H locs h hP hD hS ls (lv_sub hl [1, 2, 4] rfl)
          · skip
            have h := h.2 c59
            refine lv_iload G.1 G.2.1 d_Mo_keys_62 (lv_at hl 0 rfl) ?_
            refine lv_goto (tgt := 68) G.1 G.2.1 d_Mo_keys_64 (by decide) ?_
            exact J_68 y_4 s_3 (d_h7 + d_5) (e_h7 + e_6) x4h7 r_2 H locs h hP hD hS ls (lv_sub hl [1, 2, 4] rfl)
        · skip
          have h := h.2 c28
          refine W.eq (g2 := F0 m 31 ls []) rfl ?_
          refine lv_aload_n G.1 G.2.1 d_Mo_keys_31 rfl (lv_at hl 1 rfl) ?_
          refine ugf (v := .ref (yP y_h7 a0 5)) G hP h_a0 iMo rfl 5 (by decide) rfl q3069 rfl rfl d_Mo_keys_32 ?_
          refine lv_iload_n G.1 G.2.1 d_Mo_keys_35 rfl (lv_at hl 4 rfl) ?_
          refine lv_iload G.1 G.2.1 d_Mo_keys_36 (lv_at hl 0 rfl) ?_
          refine lv_i2b G.1 G.2.1 d_Mo_keys_38 rfl ?_
          refine ubast G hP hD hS (kdp h_a0 rfl) (typ h_a0 rfl) h d_Mo_keys_39 (fun s_10 H locs h hP hD hS => ?_)
          refine lv_iinc (v := x3h7 + 1) (lv' := [(3, .int (x3h7 + 1)), (5, .int x_1), (0, .ref (ad a0)), (1, .ref (sk (F n1))), (2, .int x2h7), (4, .int x4h7)]) G.1 G.2.1 d_Mo_keys_40 hl (k := 4) rfl rfl (by decide) rfl (fun ls hl => ?_)
          refine lv_goto (tgt := 71) G.1 G.2.1 d_Mo_keys_43 (by decide) ?_
          exact J_71 y_h7 s_10 d_h7 e_h7 x2h7 (x3h7 + 1) x4h7 H locs h hP hD hS ls (lv_sub hl [2, 3, 4, 0, 5] rfl)
  exact L_7 _ y σ 0 0 (-1) 0 0 (Nat.lt_succ_self _) hI_7 H locs hP hD hS ls (lv_sub hl [3, 4, 2, 1, 0] rfl)
theorem q3098 : Cond.fieldLink "ClassWorksModel" 64 "ClassWorksModel" "sigFirsts" "[I" ∈ lw_ok := lw_okmem (List.mem_of_getElem? (i := 3098) (by decide +kernel)) rfl
theorem q3100 : Cond.fieldLink "ClassWorksModel" 77 "ClassWorksModel" "sigs" "I" ∈ lw_ok := lw_okmem (List.mem_of_getElem? (i := 3100) (by decide +kernel)) rfl
theorem q3097 : Cond.fieldLink "ClassWorksModel" 71 "ClassWorksModel" "sigNexts" "[I" ∈ lw_ok := lw_okmem (List.mem_of_getElem? (i := 3097) (by decide +kernel)) rfl
theorem q3101 : Cond.fieldLink "ClassWorksModel" 89 "ClassWorksModel" "sigSize" "I" ∈ lw_ok := lw_okmem (List.mem_of_getElem? (i := 3101) (by decide +kernel)) rfl
theorem q2627 : Cond.methodLink "ClassWorksModel" 67 y_Mo_isSignature ∈ lw_ok := lw_okmem (List.mem_of_getElem? (i := 2627) (by decide +kernel)) rfl
theorem q2630 : Cond.code y_Mo_isSignature b_Mo_isSignature 7 (some (.boolean)) ∈ lw_ok := lw_okmem (List.mem_of_getElem? (i := 2630) (by decide +kernel)) rfl
theorem q2629 : Cond.instanceMethod y_Mo_isSignature ∈ lw_ok := lw_okmem (List.mem_of_getElem? (i := 2629) (by decide +kernel)) rfl
theorem q173 : Cond.selects y_Mo_isSignature.cls y_Mo_isSignature y_Mo_isSignature ∈ lw_ok := lw_okmem (List.mem_of_getElem? (i := 173) (by decide +kernel)) rfl
theorem w9_Mo_isSignature : CWv y_Mo_isSignature b_Mo_isSignature 7 (some (.boolean)) 4 ∧ Cond.instanceMethod y_Mo_isSignature ∈ lw_ok ∧ Cond.selects y_Mo_isSignature.cls y_Mo_isSignature y_Mo_isSignature ∈ lw_ok := ⟨⟨q2630, q348, by decide +kernel, by decide +kernel, by decide +kernel⟩, q2629, q173⟩
def y_Mo_signature : MethodName := ⟨"ClassWorksModel", "signature", "([III)I"⟩
abbrev b_Mo_signature : ByteArray := prog_14_method_7_code
theorem d_Mo_signature_0 : decode b_Mo_signature 0 = .ok (.bipush 31, 2) := by decide +kernel
theorem d_Mo_signature_2 : decode b_Mo_signature 2 = .ok (.iload_n 2, 1) := by decide +kernel
theorem d_Mo_signature_3 : decode b_Mo_signature 3 = .ok (.imul, 1) := by decide +kernel
theorem d_Mo_signature_4 : decode b_Mo_signature 4 = .ok (.iload_n 3, 1) := by decide +kernel
theorem d_Mo_signature_5 : decode b_Mo_signature 5 = .ok (.iadd, 1) := by decide +kernel
theorem d_Mo_signature_6 : decode b_Mo_signature 6 = .ok (.istore 4, 2) := by decide +kernel
theorem d_Mo_signature_8 : decode b_Mo_signature 8 = .ok (.iconst 0, 1) := by decide +kernel
theorem d_Mo_signature_9 : decode b_Mo_signature 9 = .ok (.istore 5, 2) := by decide +kernel
theorem d_Mo_signature_11 : decode b_Mo_signature 11 = .ok (.iload 5, 2) := by decide +kernel
theorem d_Mo_signature_13 : decode b_Mo_signature 13 = .ok (.iload_n 2, 1) := by decide +kernel
theorem d_Mo_signature_14 : decode b_Mo_signature 14 = .ok (.if_icmp .ge 21, 3) := by decide +kernel
theorem d_Mo_signature_17 : decode b_Mo_signature 17 = .ok (.bipush 31, 2) := by decide +kernel
theorem d_Mo_signature_19 : decode b_Mo_signature 19 = .ok (.iload 4, 2) := by decide +kernel
theorem d_Mo_signature_21 : decode b_Mo_signature 21 = .ok (.imul, 1) := by decide +kernel
theorem d_Mo_signature_22 : decode b_Mo_signature 22 = .ok (.aload_n 1, 1) := by decide +kernel
theorem d_Mo_signature_23 : decode b_Mo_signature 23 = .ok (.iload 5, 2) := by decide +kernel
theorem d_Mo_signature_25 : decode b_Mo_signature 25 = .ok (.iaload, 1) := by decide +kernel
theorem d_Mo_signature_26 : decode b_Mo_signature 26 = .ok (.iadd, 1) := by decide +kernel
theorem d_Mo_signature_27 : decode b_Mo_signature 27 = .ok (.istore 4, 2) := by decide +kernel
theorem d_Mo_signature_29 : decode b_Mo_signature 29 = .ok (.iinc 5 1, 3) := by decide +kernel
theorem d_Mo_signature_32 : decode b_Mo_signature 32 = .ok (.goto (-21), 3) := by decide +kernel
theorem d_Mo_signature_35 : decode b_Mo_signature 35 = .ok (.iload 4, 2) := by decide +kernel
theorem d_Mo_signature_37 : decode b_Mo_signature 37 = .ok (.iload 4, 2) := by decide +kernel
theorem d_Mo_signature_39 : decode b_Mo_signature 39 = .ok (.bipush 11, 2) := by decide +kernel
theorem d_Mo_signature_41 : decode b_Mo_signature 41 = .ok (.iushr, 1) := by decide +kernel
theorem d_Mo_signature_42 : decode b_Mo_signature 42 = .ok (.ixor, 1) := by decide +kernel
theorem d_Mo_signature_43 : decode b_Mo_signature 43 = .ok (.sipush 1023, 3) := by decide +kernel
theorem d_Mo_signature_46 : decode b_Mo_signature 46 = .ok (.iand, 1) := by decide +kernel
theorem d_Mo_signature_47 : decode b_Mo_signature 47 = .ok (.istore 5, 2) := by decide +kernel
theorem d_Mo_signature_49 : decode b_Mo_signature 49 = .ok (.aload_n 0, 1) := by decide +kernel
theorem d_Mo_signature_50 : decode b_Mo_signature 50 = .ok (.getfield 64, 3) := by decide +kernel
theorem d_Mo_signature_53 : decode b_Mo_signature 53 = .ok (.iload 5, 2) := by decide +kernel
theorem d_Mo_signature_55 : decode b_Mo_signature 55 = .ok (.iaload, 1) := by decide +kernel
theorem d_Mo_signature_56 : decode b_Mo_signature 56 = .ok (.istore 6, 2) := by decide +kernel
theorem d_Mo_signature_58 : decode b_Mo_signature 58 = .ok (.iload 6, 2) := by decide +kernel
theorem d_Mo_signature_60 : decode b_Mo_signature 60 = .ok (.ifCond .le 36, 3) := by decide +kernel
theorem d_Mo_signature_63 : decode b_Mo_signature 63 = .ok (.aload_n 0, 1) := by decide +kernel
theorem d_Mo_signature_64 : decode b_Mo_signature 64 = .ok (.iload 6, 2) := by decide +kernel
theorem d_Mo_signature_66 : decode b_Mo_signature 66 = .ok (.iconst 1, 1) := by decide +kernel
theorem d_Mo_signature_67 : decode b_Mo_signature 67 = .ok (.isub, 1) := by decide +kernel
theorem d_Mo_signature_68 : decode b_Mo_signature 68 = .ok (.aload_n 1, 1) := by decide +kernel
theorem d_Mo_signature_69 : decode b_Mo_signature 69 = .ok (.iload_n 2, 1) := by decide +kernel
theorem d_Mo_signature_70 : decode b_Mo_signature 70 = .ok (.iload_n 3, 1) := by decide +kernel
theorem d_Mo_signature_71 : decode b_Mo_signature 71 = .ok (.invokevirtual 67, 3) := by decide +kernel
theorem d_Mo_signature_74 : decode b_Mo_signature 74 = .ok (.ifCond .eq 8, 3) := by decide +kernel
theorem d_Mo_signature_77 : decode b_Mo_signature 77 = .ok (.iload 6, 2) := by decide +kernel
theorem d_Mo_signature_79 : decode b_Mo_signature 79 = .ok (.iconst 1, 1) := by decide +kernel
theorem d_Mo_signature_80 : decode b_Mo_signature 80 = .ok (.isub, 1) := by decide +kernel
theorem d_Mo_signature_81 : decode b_Mo_signature 81 = .ok (.ireturn, 1) := by decide +kernel
theorem d_Mo_signature_82 : decode b_Mo_signature 82 = .ok (.aload_n 0, 1) := by decide +kernel
theorem d_Mo_signature_83 : decode b_Mo_signature 83 = .ok (.getfield 71, 3) := by decide +kernel
theorem d_Mo_signature_86 : decode b_Mo_signature 86 = .ok (.iload 6, 2) := by decide +kernel
theorem d_Mo_signature_88 : decode b_Mo_signature 88 = .ok (.iconst 1, 1) := by decide +kernel
theorem d_Mo_signature_89 : decode b_Mo_signature 89 = .ok (.isub, 1) := by decide +kernel
theorem d_Mo_signature_90 : decode b_Mo_signature 90 = .ok (.iaload, 1) := by decide +kernel
theorem d_Mo_signature_91 : decode b_Mo_signature 91 = .ok (.istore 6, 2) := by decide +kernel
theorem d_Mo_signature_93 : decode b_Mo_signature 93 = .ok (.goto (-35), 3) := by decide +kernel
theorem d_Mo_signature_96 : decode b_Mo_signature 96 = .ok (.aload_n 0, 1) := by decide +kernel
theorem d_Mo_signature_97 : decode b_Mo_signature 97 = .ok (.aload_n 0, 1) := by decide +kernel
theorem d_Mo_signature_98 : decode b_Mo_signature 98 = .ok (.getfield 74, 3) := by decide +kernel
theorem d_Mo_signature_101 : decode b_Mo_signature 101 = .ok (.aload_n 0, 1) := by decide +kernel
theorem d_Mo_signature_102 : decode b_Mo_signature 102 = .ok (.getfield 77, 3) := by decide +kernel
theorem d_Mo_signature_105 : decode b_Mo_signature 105 = .ok (.iconst 1, 1) := by decide +kernel
theorem d_Mo_signature_106 : decode b_Mo_signature 106 = .ok (.iadd, 1) := by decide +kernel
theorem d_Mo_signature_107 : decode b_Mo_signature 107 = .ok (.invokestatic 43, 3) := by decide +kernel
theorem d_Mo_signature_110 : decode b_Mo_signature 110 = .ok (.putfield 74, 3) := by decide +kernel
theorem d_Mo_signature_113 : decode b_Mo_signature 113 = .ok (.aload_n 0, 1) := by decide +kernel
theorem d_Mo_signature_114 : decode b_Mo_signature 114 = .ok (.aload_n 0, 1) := by decide +kernel
theorem d_Mo_signature_115 : decode b_Mo_signature 115 = .ok (.getfield 80, 3) := by decide +kernel
theorem d_Mo_signature_118 : decode b_Mo_signature 118 = .ok (.aload_n 0, 1) := by decide +kernel
theorem d_Mo_signature_119 : decode b_Mo_signature 119 = .ok (.getfield 77, 3) := by decide +kernel
theorem d_Mo_signature_122 : decode b_Mo_signature 122 = .ok (.iconst 1, 1) := by decide +kernel
theorem d_Mo_signature_123 : decode b_Mo_signature 123 = .ok (.iadd, 1) := by decide +kernel
theorem d_Mo_signature_124 : decode b_Mo_signature 124 = .ok (.invokestatic 43, 3) := by decide +kernel
theorem d_Mo_signature_127 : decode b_Mo_signature 127 = .ok (.putfield 80, 3) := by decide +kernel
theorem d_Mo_signature_130 : decode b_Mo_signature 130 = .ok (.aload_n 0, 1) := by decide +kernel
theorem d_Mo_signature_131 : decode b_Mo_signature 131 = .ok (.aload_n 0, 1) := by decide +kernel
theorem d_Mo_signature_132 : decode b_Mo_signature 132 = .ok (.getfield 83, 3) := by decide +kernel
theorem d_Mo_signature_135 : decode b_Mo_signature 135 = .ok (.aload_n 0, 1) := by decide +kernel
theorem d_Mo_signature_136 : decode b_Mo_signature 136 = .ok (.getfield 77, 3) := by decide +kernel
theorem d_Mo_signature_139 : decode b_Mo_signature 139 = .ok (.iconst 1, 1) := by decide +kernel
theorem d_Mo_signature_140 : decode b_Mo_signature 140 = .ok (.iadd, 1) := by decide +kernel
theorem d_Mo_signature_141 : decode b_Mo_signature 141 = .ok (.invokestatic 43, 3) := by decide +kernel
theorem d_Mo_signature_144 : decode b_Mo_signature 144 = .ok (.putfield 83, 3) := by decide +kernel
theorem d_Mo_signature_147 : decode b_Mo_signature 147 = .ok (.aload_n 0, 1) := by decide +kernel
theorem d_Mo_signature_148 : decode b_Mo_signature 148 = .ok (.aload_n 0, 1) := by decide +kernel
theorem d_Mo_signature_149 : decode b_Mo_signature 149 = .ok (.getfield 71, 3) := by decide +kernel
theorem d_Mo_signature_152 : decode b_Mo_signature 152 = .ok (.aload_n 0, 1) := by decide +kernel
theorem d_Mo_signature_153 : decode b_Mo_signature 153 = .ok (.getfield 77, 3) := by decide +kernel
theorem d_Mo_signature_156 : decode b_Mo_signature 156 = .ok (.iconst 1, 1) := by decide +kernel
theorem d_Mo_signature_157 : decode b_Mo_signature 157 = .ok (.iadd, 1) := by decide +kernel
theorem d_Mo_signature_158 : decode b_Mo_signature 158 = .ok (.invokestatic 43, 3) := by decide +kernel
theorem d_Mo_signature_161 : decode b_Mo_signature 161 = .ok (.putfield 71, 3) := by decide +kernel
theorem d_Mo_signature_164 : decode b_Mo_signature 164 = .ok (.aload_n 0, 1) := by decide +kernel
theorem d_Mo_signature_165 : decode b_Mo_signature 165 = .ok (.aload_n 0, 1) := by decide +kernel
theorem d_Mo_signature_166 : decode b_Mo_signature 166 = .ok (.getfield 86, 3) := by decide +kernel
theorem d_Mo_signature_169 : decode b_Mo_signature 169 = .ok (.aload_n 0, 1) := by decide +kernel
theorem d_Mo_signature_170 : decode b_Mo_signature 170 = .ok (.getfield 89, 3) := by decide +kernel
theorem d_Mo_signature_173 : decode b_Mo_signature 173 = .ok (.iload_n 2, 1) := by decide +kernel
theorem d_Mo_signature_174 : decode b_Mo_signature 174 = .ok (.iadd, 1) := by decide +kernel
theorem d_Mo_signature_175 : decode b_Mo_signature 175 = .ok (.invokestatic 43, 3) := by decide +kernel
theorem d_Mo_signature_178 : decode b_Mo_signature 178 = .ok (.putfield 86, 3) := by decide +kernel
theorem d_Mo_signature_181 : decode b_Mo_signature 181 = .ok (.aload_n 1, 1) := by decide +kernel
theorem d_Mo_signature_182 : decode b_Mo_signature 182 = .ok (.iconst 0, 1) := by decide +kernel
theorem d_Mo_signature_183 : decode b_Mo_signature 183 = .ok (.aload_n 0, 1) := by decide +kernel
theorem d_Mo_signature_184 : decode b_Mo_signature 184 = .ok (.getfield 86, 3) := by decide +kernel
theorem d_Mo_signature_187 : decode b_Mo_signature 187 = .ok (.aload_n 0, 1) := by decide +kernel
theorem d_Mo_signature_188 : decode b_Mo_signature 188 = .ok (.getfield 89, 3) := by decide +kernel
theorem d_Mo_signature_191 : decode b_Mo_signature 191 = .ok (.iload_n 2, 1) := by decide +kernel
theorem d_Mo_signature_192 : decode b_Mo_signature 192 = .ok (.invokestatic 11, 3) := by decide +kernel
theorem d_Mo_signature_195 : decode b_Mo_signature 195 = .ok (.aload_n 0, 1) := by decide +kernel
theorem d_Mo_signature_196 : decode b_Mo_signature 196 = .ok (.getfield 74, 3) := by decide +kernel
theorem d_Mo_signature_199 : decode b_Mo_signature 199 = .ok (.aload_n 0, 1) := by decide +kernel
theorem d_Mo_signature_200 : decode b_Mo_signature 200 = .ok (.getfield 77, 3) := by decide +kernel
theorem d_Mo_signature_203 : decode b_Mo_signature 203 = .ok (.aload_n 0, 1) := by decide +kernel
theorem d_Mo_signature_204 : decode b_Mo_signature 204 = .ok (.getfield 89, 3) := by decide +kernel
theorem d_Mo_signature_207 : decode b_Mo_signature 207 = .ok (.iastore, 1) := by decide +kernel
theorem d_Mo_signature_208 : decode b_Mo_signature 208 = .ok (.aload_n 0, 1) := by decide +kernel
theorem d_Mo_signature_209 : decode b_Mo_signature 209 = .ok (.getfield 80, 3) := by decide +kernel
theorem d_Mo_signature_212 : decode b_Mo_signature 212 = .ok (.aload_n 0, 1) := by decide +kernel
theorem d_Mo_signature_213 : decode b_Mo_signature 213 = .ok (.getfield 77, 3) := by decide +kernel
theorem d_Mo_signature_216 : decode b_Mo_signature 216 = .ok (.iload_n 2, 1) := by decide +kernel
theorem d_Mo_signature_217 : decode b_Mo_signature 217 = .ok (.iastore, 1) := by decide +kernel
theorem d_Mo_signature_218 : decode b_Mo_signature 218 = .ok (.aload_n 0, 1) := by decide +kernel
theorem d_Mo_signature_219 : decode b_Mo_signature 219 = .ok (.getfield 83, 3) := by decide +kernel
theorem d_Mo_signature_222 : decode b_Mo_signature 222 = .ok (.aload_n 0, 1) := by decide +kernel
theorem d_Mo_signature_223 : decode b_Mo_signature 223 = .ok (.getfield 77, 3) := by decide +kernel
theorem d_Mo_signature_226 : decode b_Mo_signature 226 = .ok (.iload_n 3, 1) := by decide +kernel
theorem d_Mo_signature_227 : decode b_Mo_signature 227 = .ok (.iastore, 1) := by decide +kernel
theorem d_Mo_signature_228 : decode b_Mo_signature 228 = .ok (.aload_n 0, 1) := by decide +kernel
theorem d_Mo_signature_229 : decode b_Mo_signature 229 = .ok (.getfield 71, 3) := by decide +kernel
theorem d_Mo_signature_232 : decode b_Mo_signature 232 = .ok (.aload_n 0, 1) := by decide +kernel
theorem d_Mo_signature_233 : decode b_Mo_signature 233 = .ok (.getfield 77, 3) := by decide +kernel
theorem d_Mo_signature_236 : decode b_Mo_signature 236 = .ok (.aload_n 0, 1) := by decide +kernel
theorem d_Mo_signature_237 : decode b_Mo_signature 237 = .ok (.getfield 64, 3) := by decide +kernel
theorem d_Mo_signature_240 : decode b_Mo_signature 240 = .ok (.iload 5, 2) := by decide +kernel
theorem d_Mo_signature_242 : decode b_Mo_signature 242 = .ok (.iaload, 1) := by decide +kernel
theorem d_Mo_signature_243 : decode b_Mo_signature 243 = .ok (.iastore, 1) := by decide +kernel
theorem d_Mo_signature_244 : decode b_Mo_signature 244 = .ok (.aload_n 0, 1) := by decide +kernel
theorem d_Mo_signature_245 : decode b_Mo_signature 245 = .ok (.dup, 1) := by decide +kernel
theorem d_Mo_signature_246 : decode b_Mo_signature 246 = .ok (.getfield 89, 3) := by decide +kernel
theorem d_Mo_signature_249 : decode b_Mo_signature 249 = .ok (.iload_n 2, 1) := by decide +kernel
theorem d_Mo_signature_250 : decode b_Mo_signature 250 = .ok (.iadd, 1) := by decide +kernel
theorem d_Mo_signature_251 : decode b_Mo_signature 251 = .ok (.putfield 89, 3) := by decide +kernel
theorem d_Mo_signature_254 : decode b_Mo_signature 254 = .ok (.aload_n 0, 1) := by decide +kernel
theorem d_Mo_signature_255 : decode b_Mo_signature 255 = .ok (.dup, 1) := by decide +kernel
theorem d_Mo_signature_256 : decode b_Mo_signature 256 = .ok (.getfield 77, 3) := by decide +kernel
theorem d_Mo_signature_259 : decode b_Mo_signature 259 = .ok (.iconst 1, 1) := by decide +kernel
theorem d_Mo_signature_260 : decode b_Mo_signature 260 = .ok (.iadd, 1) := by decide +kernel
theorem d_Mo_signature_261 : decode b_Mo_signature 261 = .ok (.putfield 77, 3) := by decide +kernel
theorem d_Mo_signature_264 : decode b_Mo_signature 264 = .ok (.aload_n 0, 1) := by decide +kernel
theorem d_Mo_signature_265 : decode b_Mo_signature 265 = .ok (.getfield 64, 3) := by decide +kernel
theorem d_Mo_signature_268 : decode b_Mo_signature 268 = .ok (.iload 5, 2) := by decide +kernel
theorem d_Mo_signature_270 : decode b_Mo_signature 270 = .ok (.aload_n 0, 1) := by decide +kernel
theorem d_Mo_signature_271 : decode b_Mo_signature 271 = .ok (.getfield 77, 3) := by decide +kernel
theorem d_Mo_signature_274 : decode b_Mo_signature 274 = .ok (.iastore, 1) := by decide +kernel
theorem d_Mo_signature_275 : decode b_Mo_signature 275 = .ok (.aload_n 0, 1) := by decide +kernel
theorem d_Mo_signature_276 : decode b_Mo_signature 276 = .ok (.getfield 77, 3) := by decide +kernel
theorem d_Mo_signature_279 : decode b_Mo_signature 279 = .ok (.iconst 1, 1) := by decide +kernel
theorem d_Mo_signature_280 : decode b_Mo_signature 280 = .ok (.isub, 1) := by decide +kernel
theorem d_Mo_signature_281 : decode b_Mo_signature 281 = .ok (.ireturn, 1) := by decide +kernel
abbrev ra_Mo_signature (mc ms : Nat) : Room := { frames := 2, cells := mc, slots := ms, locals := 150 }
def wba_Mo_signature_58 (mc ms : Nat) (Post : Ly → St → Int32 → Nat → Nat → Prop) (K_58 : Ly → St → Nat → Nat → Int32 → Int32 → Int32 → Int32 → Prop) (a0 : Nat) (a1 : Nat) (k1 : Nat) (y_h58 : Ly) (s_h58 : St) (d_h58 e_h58 : Nat) (x2h58 : Int32) (x3h58 : Int32) (x5h58 : Int32) (x6h58 : Int32) : Prop := (d_h58 ≤ mc ∧ e_h58 ≤ ms) ∧ ((x6h58 ≤ 0 → xR mc ms d_h58 e_h58 .int y_h58 s_h58 a0 30 ((sV s_h58 a0 36) + 1) (fun (y_2 : Ly) (s_3 : St) (d_4 e_5 : Nat) => (d_4 ≤ mc ∧ e_5 ≤ ms) ∧ yP y_h58 a1 k1 = yP y_2 a1 k1 ∧ xR mc ms d_4 e_5 .int y_2 s_3 a0 31 ((sV s_3 a0 36) + 1) (fun (y_7 : Ly) (s_8 : St) (d_9 e_10 : Nat) => (d_9 ≤ mc ∧ e_10 ≤ ms) ∧ yP y_2 a1 k1 = yP y_7 a1 k1 ∧ xR mc ms d_9 e_10 .int y_7 s_8 a0 32 ((sV s_8 a0 36) + 1) (fun (y_12 : Ly) (s_13 : St) (d_14 e_15 : Nat) => (d_14 ≤ mc ∧ e_15 ≤ ms) ∧ yP y_7 a1 k1 = yP y_12 a1 k1 ∧ xR mc ms d_14 e_15 .int y_12 s_13 a0 33 ((sV s_13 a0 36) + 1) (fun (y_17 : Ly) (s_18 : St) (d_19 e_20 : Nat) => (d_19 ≤ mc ∧ e_20 ≤ ms) ∧ yP y_12 a1 k1 = yP y_17 a1 k1 ∧ xR mc ms d_19 e_20 .int y_17 s_18 a0 35 ((sV s_18 a0 37) + x2h58) (fun (y_22 : Ly) (s_23 : St) (d_24 e_25 : Nat) => (d_24 ≤ mc ∧ e_25 ≤ ms) ∧ yP y_17 a1 k1 = yP y_22 a1 k1 ∧ xC y_22 s_23 a1 k1 a0 35 .int 0 (sV s_23 a0 37) x2h58 (fun s_27 : St => xS y_22 s_27 a0 30 (sV s_27 a0 36) (sV s_27 a0 37) (fun s_28 : St => xS y_22 s_28 a0 31 (sV s_28 a0 36) x2h58 (fun s_29 : St => xS y_22 s_29 a0 32 (sV s_29 a0 36) x3h58 (fun s_30 : St => xA y_22 s_30 a0 34 x5h58 (fun x_31 : Int32 => xS y_22 s_30 a0 33 (sV s_30 a0 36) x_31 (fun s_32 : St => xP (uV s_32 a0 37 ((sV s_32 a0 37) + x2h58)) (fun s_33 : St => xP (uV s_33 a0 36 ((sV s_33 a0 36) + 1)) (fun s_34 : St => xS y_22 s_34 a0 34 x5h58 (sV s_34 a0 36) (fun s_35 : St => Post y_22 s_35 ((sV s_35 a0 36) - 1) d_24 e_25))))))))))))))) ∧ (¬ (x6h58 ≤ 0) → wu_Mo_isSignature y_h58 (fun (s_37 : St) (r_36 : Int32) => ((r_36 = 0 → xA y_h58 s_37 a0 33 (x6h58 - 1) (fun x_38 : Int32 => K_58 y_h58 s_37 d_h58 e_h58 x2h58 x3h58 x5h58 x_38)) ∧ (¬ (r_36 = 0) → Post y_h58 s_37 (x6h58 - 1) d_h58 e_h58))) s_h58 a0 (x6h58 - 1) a1 k1 x2h58 x3h58))
def wla_Mo_signature_58 (mc ms : Nat) (Post : Ly → St → Int32 → Nat → Nat → Prop) (a0 : Nat) (a1 : Nat) (k1 : Nat) (y_h58 : Ly) (s_h58 : St) (d_h58 e_h58 : Nat) (x2h58 : Int32) (x3h58 : Int32) (x5h58 : Int32) (x6h58 : Int32) : Prop := ∃ (I : Ly → St → Nat → Nat → Int32 → Int32 → Int32 → Int32 → Prop) (μ : Ly → St → Nat → Nat → Int32 → Int32 → Int32 → Int32 → Nat), I y_h58 s_h58 d_h58 e_h58 x2h58 x3h58 x5h58 x6h58 ∧ ∀ (u1 : Ly) (u2 : St) (u3 u4 : Nat) (t0 : Int32) (t1 : Int32) (t2 : Int32) (t3 : Int32), I u1 u2 u3 u4 t0 t1 t2 t3 → wba_Mo_signature_58 mc ms Post (fun z1 z2 z3 z4 t0q t1q t2q t3q => I z1 z2 z3 z4 t0q t1q t2q t3q ∧ μ z1 z2 z3 z4 t0q t1q t2q t3q < μ u1 u2 u3 u4 t0 t1 t2 t3) a0 a1 k1 u1 u2 u3 u4 t0 t1 t2 t3
def wba_Mo_signature_11 (mc ms : Nat) (Post : Ly → St → Int32 → Nat → Nat → Prop) (K_11 : Ly → St → Nat → Nat → Int32 → Int32 → Int32 → Int32 → Prop) (a0 : Nat) (a1 : Nat) (k1 : Nat) (y_h11 : Ly) (s_h11 : St) (d_h11 e_h11 : Nat) (x2h11 : Int32) (x3h11 : Int32) (x4h11 : Int32) (x5h11 : Int32) : Prop := (d_h11 ≤ mc ∧ e_h11 ≤ ms) ∧ ((x2h11 ≤ x5h11 → xA y_h11 s_h11 a0 34 ((x4h11 ^^^ ((x4h11.toUInt32 >>> ((11 : Int32).toUInt32 &&& Int32.toUInt32 31)).toInt32)) &&& 1023) (fun x_1 : Int32 => wla_Mo_signature_58 mc ms Post a0 a1 k1 y_h11 s_h11 d_h11 e_h11 x2h11 x3h11 ((x4h11 ^^^ ((x4h11.toUInt32 >>> ((11 : Int32).toUInt32 &&& Int32.toUInt32 31)).toInt32)) &&& 1023) x_1)) ∧ (¬ (x2h11 ≤ x5h11) → xA y_h11 s_h11 a1 k1 x5h11 (fun x_39 : Int32 => K_11 y_h11 s_h11 d_h11 e_h11 x2h11 x3h11 ((31 * x4h11) + x_39) (x5h11 + 1))))
def wla_Mo_signature_11 (mc ms : Nat) (Post : Ly → St → Int32 → Nat → Nat → Prop) (a0 : Nat) (a1 : Nat) (k1 : Nat) (y_h11 : Ly) (s_h11 : St) (d_h11 e_h11 : Nat) (x2h11 : Int32) (x3h11 : Int32) (x4h11 : Int32) (x5h11 : Int32) : Prop := ∃ (I : Ly → St → Nat → Nat → Int32 → Int32 → Int32 → Int32 → Prop) (μ : Ly → St → Nat → Nat → Int32 → Int32 → Int32 → Int32 → Nat), I y_h11 s_h11 d_h11 e_h11 x2h11 x3h11 x4h11 x5h11 ∧ ∀ (u1 : Ly) (u2 : St) (u3 u4 : Nat) (t0 : Int32) (t1 : Int32) (t2 : Int32) (t3 : Int32), I u1 u2 u3 u4 t0 t1 t2 t3 → wba_Mo_signature_11 mc ms Post (fun z1 z2 z3 z4 t0q t1q t2q t3q => I z1 z2 z3 z4 t0q t1q t2q t3q ∧ μ z1 z2 z3 z4 t0q t1q t2q t3q < μ u1 u2 u3 u4 t0 t1 t2 t3) a0 a1 k1 u1 u2 u3 u4 t0 t1 t2 t3
def wa_Mo_signature (mc ms : Nat) (y : Ly) (Post : Ly → St → Int32 → Nat → Nat → Prop) (σ : St) (a0 : Nat) (a1 : Nat) (k1 : Nat) (v2 : Int32) (v3 : Int32) : Prop := wla_Mo_signature_11 mc ms Post a0 a1 k1 y σ 0 0 v2 v3 ((31 * v2) + v3) 0
set_option maxHeartbeats 4000000 in
set_option maxRecDepth 100000 in
theorem ca_Mo_signature (l : Launch) (D : va_G) (g : Nat → ClassId) (ad : Nat → Nat) (mc ms : Nat) (y : Ly) (Post : Ly → St → Int32 → Nat → Nat → Prop) (σ : St) (a0 : Nat) (a1 : Nat) (k1 : Nat) (v2 : Int32) (v3 : Int32) (sz uz : Nat) (h_a0 : cl a0 = 14) (h_a1 : kd (cl a1) k1 = 2 ∧ tyx (cl a1) k1 = 0) (h : wa_Mo_signature mc ms y Post σ a0 a1 k1 v2 v3) : Met l y_Mo_signature (mw y_Mo_signature b_Mo_signature 7 (some .int)) (ra_Mo_signature mc ms) (PCu g D [] [.ref (ad a0), .ref (yP y a1 k1), .int v2, .int v3] sz uz (ws g ad y σ)) (va_Qi (fun (r : Int32) (u : Ly × St × Nat × Nat) => Post u.1 u.2.1 r u.2.2.1 u.2.2.2) (QU D (va_A (ws g ad y σ) sz) (fun u => ws g ad u.1 u.2.1) sz uz (fun u => u.2.2.1) (fun u => u.2.2.2)) (va_A (ws g ad y σ) sz)) mc ms (va_A (ws g ad y σ) sz) := by
  refine ofIu (by decide +kernel) (Nat.le_of_ble_eq_true rfl) ?_
  intro p e s m args below meth c A Q ls H locs G hsz hP hD hS hl hret
  subst hsz
  have hl : lv_has ls 7 [(0, .ref (ad a0)), (1, .ref (yP y a1 k1)), (2, .int v2), (3, .int v3)] := hl
  have hd : 0 ≤ mc ∧ 0 ≤ ms := ⟨Nat.zero_le _, Nat.zero_le _⟩
  unfold wa_Mo_signature at h
  refine lv_bipush (v := 31) G.1 G.2.1 d_Mo_signature_0 (by decide) ?_
  refine lv_iload_n G.1 G.2.1 d_Mo_signature_2 rfl (lv_at hl 2 rfl) ?_
  refine lv_imul G.1 G.2.1 d_Mo_signature_3 ?_
  refine lv_iload_n G.1 G.2.1 d_Mo_signature_4 rfl (lv_at hl 3 rfl) ?_
  refine lv_iadd G.1 G.2.1 d_Mo_signature_5 ?_
  refine lv_istore (lv' := [(4, .int ((31 * v2) + v3)), (0, .ref (ad a0)), (1, .ref (yP y a1 k1)), (2, .int v2), (3, .int v3)]) G.1 G.2.1 d_Mo_signature_6 hl (by decide) rfl (fun ls hl => ?_)
  refine lv_iconst (v := 0) G.1 G.2.1 d_Mo_signature_8 (by decide) ?_
  refine lv_istore (lv' := [(5, .int 0), (4, .int ((31 * v2) + v3)), (0, .ref (ad a0)), (1, .ref (yP y a1 k1)), (2, .int v2), (3, .int v3)]) G.1 G.2.1 d_Mo_signature_9 hl (by decide) rfl (fun ls hl => ?_)
  unfold wla_Mo_signature_11 at h
  obtain ⟨I_11, μ_11, hI_11, hB_11⟩ := h
  have L_11 : ∀ (n_11 : Nat) (y_h11 : Ly) (s_h11 : St) (d_h11 e_h11 : Nat) (x2h11 : Int32) (x3h11 : Int32) (x4h11 : Int32) (x5h11 : Int32), μ_11 y_h11 s_h11 d_h11 e_h11 x2h11 x3h11 x4h11 x5h11 < n_11 → I_11 y_h11 s_h11 d_h11 e_h11 x2h11 x3h11 x4h11 x5h11 → ∀ (H : Heap) (locs : List Loc), va_P D CL (ws g ad y_h11 s_h11) H → va_D A (ws g ad y_h11 s_h11) → va_S A s.heap H locs → ∀ ls, lv_has ls 7 [(0, .ref (ad a0)), (1, .ref (yP y_h11 a1 k1)), (2, .int x2h11), (3, .int x3h11), (4, .int x4h11), (5, .int x5h11)] → W p l e (ra_Mo_signature mc ms) s m args below meth c H locs d_h11 e_h11 Q (F0 m 11 ls []) := by
    intro n_11
    induction n_11 with
    | zero => intro y_h11 s_h11 d_h11 e_h11 x2h11 x3h11 x4h11 x5h11 hμ; exact absurd hμ (Nat.not_lt_zero _)
    | succ n_11 ih_11 =>
      intro y_h11 s_h11 d_h11 e_h11 x2h11 x3h11 x4h11 x5h11 hμ_11 hJ H locs hP hD hS ls hl
      obtain ⟨K_11, hK_11, h⟩ : ∃ K : Ly → St → Nat → Nat → Int32 → Int32 → Int32 → Int32 → Prop, (∀ z1 z2 z3 z4 (t0 : Int32) (t1 : Int32) (t2 : Int32) (t3 : Int32), K z1 z2 z3 z4 t0 t1 t2 t3 → I_11 z1 z2 z3 z4 t0 t1 t2 t3 ∧ μ_11 z1 z2 z3 z4 t0 t1 t2 t3 < μ_11 y_h11 s_h11 d_h11 e_h11 x2h11 x3h11 x4h11 x5h11) ∧ wba_Mo_signature_11 mc ms Post K a0 a1 k1 y_h11 s_h11 d_h11 e_h11 x2h11 x3h11 x4h11 x5h11 := ⟨_, fun _ _ _ _ _ _ _ _ h => h, hB_11 y_h11 s_h11 d_h11 e_h11 x2h11 x3h11 x4h11 x5h11 hJ⟩
      unfold wba_Mo_signature_11 at h
      obtain ⟨hd, h⟩ := h
      refine lv_iload G.1 G.2.1 d_Mo_signature_11 (lv_at hl 5 rfl) ?_
      refine lv_iload_n G.1 G.2.1 d_Mo_signature_13 rfl (lv_at hl 2 rfl) ?_
      refine lv_icmp_ge (tgt := 35) G.1 G.2.1 d_Mo_signature_14 (by decide) (fun c14 => ?_) (fun c14 => ?_)
      · skip
        have h := h.1 c14
        refine lv_iload G.1 G.2.1 d_Mo_signature_35 (lv_at hl 4 rfl) ?_
        refine lv_iload G.1 G.2.1 d_Mo_signature_37 (lv_at hl 4 rfl) ?_
        refine lv_bipush (v := 11) G.1 G.2.1 d_Mo_signature_39 (by decide) ?_
        refine lv_iushr G.1 G.2.1 d_Mo_signature_41 rfl ?_
        refine lv_ixor G.1 G.2.1 d_Mo_signature_42 ?_
        refine lv_sipush (v := 1023) G.1 G.2.1 d_Mo_signature_43 (by decide) ?_
        refine lv_iand G.1 G.2.1 d_Mo_signature_46 ?_
        refine lv_istore (lv' := [(5, .int ((x4h11 ^^^ ((x4h11.toUInt32 >>> ((11 : Int32).toUInt32 &&& Int32.toUInt32 31)).toInt32)) &&& 1023)), (0, .ref (ad a0)), (1, .ref (yP y_h11 a1 k1)), (2, .int x2h11), (3, .int x3h11), (4, .int x4h11)]) G.1 G.2.1 d_Mo_signature_47 hl (by decide) rfl (fun ls hl => ?_)
        refine W.eq (g2 := F0 m 49 ls []) rfl ?_
        refine lv_aload_n G.1 G.2.1 d_Mo_signature_49 rfl (lv_at hl 1 rfl) ?_
        refine ugf (v := .ref (yP y_h11 a0 34)) G hP h_a0 iMo rfl 34 (by decide) rfl q3098 rfl rfl d_Mo_signature_50 ?_
        refine lv_iload G.1 G.2.1 d_Mo_signature_53 (lv_at hl 0 rfl) ?_
        refine uiald G hP (kdp h_a0 rfl) (typ h_a0 rfl) h d_Mo_signature_55 (fun x_1 h => ?_)
        refine lv_istore (lv' := [(6, .int x_1), (5, .int ((x4h11 ^^^ ((x4h11.toUInt32 >>> ((11 : Int32).toUInt32 &&& Int32.toUInt32 31)).toInt32)) &&& 1023)), (0, .ref (ad a0)), (1, .ref (yP y_h11 a1 k1)), (2, .int x2h11), (3, .int x3h11), (4, .int x4h11)]) G.1 G.2.1 d_Mo_signature_56 hl (by decide) rfl (fun ls hl => ?_)
        unfold wla_Mo_signature_58 at h
        obtain ⟨I_58, μ_58, hI_58, hB_58⟩ := h
        have L_58 : ∀ (n_58 : Nat) (y_h58 : Ly) (s_h58 : St) (d_h58 e_h58 : Nat) (x2h58 : Int32) (x3h58 : Int32) (x5h58 : Int32) (x6h58 : Int32), μ_58 y_h58 s_h58 d_h58 e_h58 x2h58 x3h58 x5h58 x6h58 < n_58 → I_58 y_h58 s_h58 d_h58 e_h58 x2h58 x3h58 x5h58 x6h58 → ∀ (H : Heap) (locs : List Loc), va_P D CL (ws g ad y_h58 s_h58) H → va_D A (ws g ad y_h58 s_h58) → va_S A s.heap H locs → ∀ ls, lv_has ls 7 [(0, .ref (ad a0)), (1, .ref (yP y_h58 a1 k1)), (2, .int x2h58), (3, .int x3h58), (5, .int x5h58), (6, .int x6h58)] → W p l e (ra_Mo_signature mc ms) s m args below meth c H locs d_h58 e_h58 Q (F0 m 58 ls []) := by
          intro n_58
          induction n_58 with
          | zero => intro y_h58 s_h58 d_h58 e_h58 x2h58 x3h58 x5h58 x6h58 hμ; exact absurd hμ (Nat.not_lt_zero _)
          | succ n_58 ih_58 =>
            intro y_h58 s_h58 d_h58 e_h58 x2h58 x3h58 x5h58 x6h58 hμ_58 hJ H locs hP hD hS ls hl
            obtain ⟨K_58, hK_58, h⟩ : ∃ K : Ly → St → Nat → Nat → Int32 → Int32 → Int32 → Int32 → Prop, (∀ z1 z2 z3 z4 (t0 : Int32) (t1 : Int32) (t2 : Int32) (t3 : Int32), K z1 z2 z3 z4 t0 t1 t2 t3 → I_58 z1 z2 z3 z4 t0 t1 t2 t3 ∧ μ_58 z1 z2 z3 z4 t0 t1 t2 t3 < μ_58 y_h58 s_h58 d_h58 e_h58 x2h58 x3h58 x5h58 x6h58) ∧ wba_Mo_signature_58 mc ms Post K a0 a1 k1 y_h58 s_h58 d_h58 e_h58 x2h58 x3h58 x5h58 x6h58 := ⟨_, fun _ _ _ _ _ _ _ _ h => h, hB_58 y_h58 s_h58 d_h58 e_h58 x2h58 x3h58 x5h58 x6h58 hJ⟩
            unfold wba_Mo_signature_58 at h
            obtain ⟨hd, h⟩ := h
            refine lv_iload G.1 G.2.1 d_Mo_signature_58 (lv_at hl 5 rfl) ?_
            refine lv_if_le (tgt := 96) G.1 G.2.1 d_Mo_signature_60 (by decide) (fun c60 => ?_) (fun c60 => ?_)
            · skip
              have h := h.1 c60
              refine lv_aload_n G.1 G.2.1 d_Mo_signature_96 rfl (lv_at hl 0 rfl) ?_
              refine lv_aload_n G.1 G.2.1 d_Mo_signature_97 rfl (lv_at hl 0 rfl) ?_
              refine ugf (v := .ref (yP y_h58 a0 30)) G hP h_a0 iMo rfl 30 (by decide) rfl q3094 rfl rfl d_Mo_signature_98 ?_
              refine lv_aload_n G.1 G.2.1 d_Mo_signature_101 rfl (lv_at hl 0 rfl) ?_
              refine ugf (v := .int (sV s_h58 a0 36)) G hP h_a0 iMo rfl 36 (by decide) rfl q3100 rfl rfl d_Mo_signature_102 ?_
              refine lv_iconst (v := 1) G.1 G.2.1 d_Mo_signature_105 (by decide) ?_
              refine lv_iadd G.1 G.2.1 d_Mo_signature_106 ?_
              refine uroom (C := RMo) (T := TMo) (N := 131) G hP hD hS (fun ws0 q1 q t n f sz he ht hn => c_Mo_room_k l D g ws0 q1 q t n f sz he ht hn) (fun ws0 q1 q t n f sz he hn ht hf => c_Mo_room_g l D g ws0 q1 q t n f sz he hn ht hf) w9_Mo_room q2596 ⟨Nat.le_of_ble_eq_true rfl, Nat.le_of_ble_eq_true rfl⟩ (Nat.le_refl _) (Nat.le_refl _) hd h_a0 rfl rfl iMo tMo tMo_ok nMo rfl (by decide) q3094 rfl rfl (fun _ => rfl) (fun _ => rfl) hl.1 (Nat.le_of_ble_eq_true rfl) h d_Mo_signature_107 d_Mo_signature_110 (fun y_2 s_3 d_4 e_5 H locs h hP hD hS => ?_)
              have hl := lv_sub (l' := [(0, .ref (ad a0)), (1, .ref (yP y_h58 a1 k1)), (2, .int x2h58), (3, .int x3h58), (5, .int x5h58)]) hl [0, 1, 2, 3, 4] rfl
              obtain ⟨hd, h⟩ := h
              obtain ⟨n_6, h⟩ := h
              rw [n_6] at hl
              refine lv_aload_n G.1 G.2.1 d_Mo_signature_113 rfl (lv_at hl 0 rfl) ?_
              refine W.eq (g2 := F0 m 114 ls [.ref (ad a0)]) rfl ?_
              refine lv_aload_n G.1 G.2.1 d_Mo_signature_114 rfl (lv_at hl 0 rfl) ?_
              refine ugf (v := .ref (yP y_2 a0 31)) G hP h_a0 iMo rfl 31 (by decide) rfl q3095 rfl rfl d_Mo_signature_115 ?_
              refine lv_aload_n G.1 G.2.1 d_Mo_signature_118 rfl (lv_at hl 0 rfl) ?_
              refine ugf (v := .int (sV s_3 a0 36)) G hP h_a0 iMo rfl 36 (by decide) rfl q3100 rfl rfl d_Mo_signature_119 ?_
              refine lv_iconst (v := 1) G.1 G.2.1 d_Mo_signature_122 (by decide) ?_
              refine lv_iadd G.1 G.2.1 d_Mo_signature_123 ?_
              refine uroom (C := RMo) (T := TMo) (N := 131) G hP hD hS (fun ws0 q1 q t n f sz he ht hn => c_Mo_room_k l D g ws0 q1 q t n f sz he ht hn) (fun ws0 q1 q t n f sz he hn ht hf => c_Mo_room_g l D g ws0 q1 q t n f sz he hn ht hf) w9_Mo_room q2596 ⟨Nat.le_of_ble_eq_true rfl, Nat.le_of_ble_eq_true rfl⟩ (Nat.le_refl _) (Nat.le_refl _) hd h_a0 rfl rfl iMo tMo tMo_ok nMo rfl (by decide) q3095 rfl rfl (fun _ => rfl) (fun _ => rfl) hl.1 (Nat.le_of_ble_eq_true rfl) h d_Mo_signature_124 d_Mo_signature_127 (fun y_7 s_8 d_9 e_10 H locs h hP hD hS => ?_)
              obtain ⟨hd, h⟩ := h
              obtain ⟨n_11, h⟩ := h
              rw [n_11] at hl
              refine lv_aload_n G.1 G.2.1 d_Mo_signature_130 rfl (lv_at hl 0 rfl) ?_
              refine lv_aload_n G.1 G.2.1 d_Mo_signature_131 rfl (lv_at hl 0 rfl) ?_
              refine ugf (v := .ref (yP y_7 a0 32)) G hP h_a0 iMo rfl 32 (by decide) rfl q3096 rfl rfl d_Mo_signature_132 ?_
              refine lv_aload_n G.1 G.2.1 d_Mo_signature_135 rfl (lv_at hl 0 rfl) ?_
              refine ugf (v := .int (sV s_8 a0 36)) G hP h_a0 iMo rfl 36 (by decide) rfl q3100 rfl rfl d_Mo_signature_136 ?_
              refine W.eq (g2 := F0 m 139 ls [.int (sV s_8 a0 36), .ref (yP y_7 a0 32), .ref (ad a0)]) rfl ?_
              refine lv_iconst (v := 1) G.1 G.2.1 d_Mo_signature_139 (by decide) ?_
              refine lv_iadd G.1 G.2.1 d_Mo_signature_140 ?_
              refine uroom (C := RMo) (T := TMo) (N := 131) G hP hD hS (fun ws0 q1 q t n f sz he ht hn => c_Mo_room_k l D g ws0 q1 q t n f sz he ht hn) (fun ws0 q1 q t n f sz he hn ht hf => c_Mo_room_g l D g ws0 q1 q t n f sz he hn ht hf) w9_Mo_room q2596 ⟨Nat.le_of_ble_eq_true rfl, Nat.le_of_ble_eq_true rfl⟩ (Nat.le_refl _) (Nat.le_refl _) hd h_a0 rfl rfl iMo tMo tMo_ok nMo rfl (by decide) q3096 rfl rfl (fun _ => rfl) (fun _ => rfl) hl.1 (Nat.le_of_ble_eq_true rfl) h d_Mo_signature_141 d_Mo_signature_144 (fun y_12 s_13 d_14 e_15 H locs h hP hD hS => ?_)
              obtain ⟨hd, h⟩ := h
              obtain ⟨n_16, h⟩ := h
              rw [n_16] at hl
              refine lv_aload_n G.1 G.2.1 d_Mo_signature_147 rfl (lv_at hl 0 rfl) ?_
              refine lv_aload_n G.1 G.2.1 d_Mo_signature_148 rfl (lv_at hl 0 rfl) ?_
              refine ugf (v := .ref (yP y_12 a0 33)) G hP h_a0 iMo rfl 33 (by decide) rfl q3097 rfl rfl d_Mo_signature_149 ?_
              refine lv_aload_n G.1 G.2.1 d_Mo_signature_152 rfl (lv_at hl 0 rfl) ?_
              refine ugf (v := .int (sV s_13 a0 36)) G hP h_a0 iMo rfl 36 (by decide) rfl q3100 rfl rfl d_Mo_signature_153 ?_
              refine lv_iconst (v := 1) G.1 G.2.1 d_Mo_signature_156 (by decide) ?_
              refine lv_iadd G.1 G.2.1 d_Mo_signature_157 ?_
              refine uroom (C := RMo) (T := TMo) (N := 131) G hP hD hS (fun ws0 q1 q t n f sz he ht hn => c_Mo_room_k l D g ws0 q1 q t n f sz he ht hn) (fun ws0 q1 q t n f sz he hn ht hf => c_Mo_room_g l D g ws0 q1 q t n f sz he hn ht hf) w9_Mo_room q2596 ⟨Nat.le_of_ble_eq_true rfl, Nat.le_of_ble_eq_true rfl⟩ (Nat.le_refl _) (Nat.le_refl _) hd h_a0 rfl rfl iMo tMo tMo_ok nMo rfl (by decide) q3097 rfl rfl (fun _ => rfl) (fun _ => rfl) hl.1 (Nat.le_of_ble_eq_true rfl) h d_Mo_signature_158 d_Mo_signature_161 (fun y_17 s_18 d_19 e_20 H locs h hP hD hS => ?_)
              obtain ⟨hd, h⟩ := h
              obtain ⟨n_21, h⟩ := h
              rw [n_21] at hl
              refine lv_aload_n G.1 G.2.1 d_Mo_signature_164 rfl (lv_at hl 0 rfl) ?_
              refine W.eq (g2 := F0 m 165 ls [.ref (ad a0)]) rfl ?_
              refine lv_aload_n G.1 G.2.1 d_Mo_signature_165 rfl (lv_at hl 0 rfl) ?_
              refine ugf (v := .ref (yP y_17 a0 35)) G hP h_a0 iMo rfl 35 (by decide) rfl q3099 rfl rfl d_Mo_signature_166 ?_
              refine lv_aload_n G.1 G.2.1 d_Mo_signature_169 rfl (lv_at hl 0 rfl) ?_
              refine ugf (v := .int (sV s_18 a0 37)) G hP h_a0 iMo rfl 37 (by decide) rfl q3101 rfl rfl d_Mo_signature_170 ?_
              refine lv_iload_n G.1 G.2.1 d_Mo_signature_173 rfl (lv_at hl 2 rfl) ?_
              refine lv_iadd G.1 G.2.1 d_Mo_signature_174 ?_
              refine uroom (C := RMo) (T := TMo) (N := 131) G hP hD hS (fun ws0 q1 q t n f sz he ht hn => c_Mo_room_k l D g ws0 q1 q t n f sz he ht hn) (fun ws0 q1 q t n f sz he hn ht hf => c_Mo_room_g l D g ws0 q1 q t n f sz he hn ht hf) w9_Mo_room q2596 ⟨Nat.le_of_ble_eq_true rfl, Nat.le_of_ble_eq_true rfl⟩ (Nat.le_refl _) (Nat.le_refl _) hd h_a0 rfl rfl iMo tMo tMo_ok nMo rfl (by decide) q3099 rfl rfl (fun _ => rfl) (fun _ => rfl) hl.1 (Nat.le_of_ble_eq_true rfl) h d_Mo_signature_175 d_Mo_signature_178 (fun y_22 s_23 d_24 e_25 H locs h hP hD hS => ?_)
              obtain ⟨hd, h⟩ := h
              obtain ⟨n_26, h⟩ := h
              rw [n_26] at hl
              refine lv_aload_n G.1 G.2.1 d_Mo_signature_181 rfl (lv_at hl 1 rfl) ?_
              refine lv_iconst (v := 0) G.1 G.2.1 d_Mo_signature_182 (by decide) ?_
              refine lv_aload_n G.1 G.2.1 d_Mo_signature_183 rfl (lv_at hl 0 rfl) ?_
              refine ugf (v := .ref (yP y_22 a0 35)) G hP h_a0 iMo rfl 35 (by decide) rfl q3099 rfl rfl d_Mo_signature_184 ?_
              refine lv_aload_n G.1 G.2.1 d_Mo_signature_187 rfl (lv_at hl 0 rfl) ?_
              refine W.eq (g2 := F0 m 188 ls [.ref (ad a0), .ref (yP y_22 a0 35), .int 0, .ref (yP y_22 a1 k1)]) rfl ?_
              refine ugf (v := .int (sV s_23 a0 37)) G hP h_a0 iMo rfl 37 (by decide) rfl q3101 rfl rfl d_Mo_signature_188 ?_
              refine lv_iload_n G.1 G.2.1 d_Mo_signature_191 rfl (lv_at hl 2 rfl) ?_
              refine ucpy G hP hD hS h_a1.1 h_a1.2 (kdp h_a0 rfl) (typ h_a0 rfl) rfl rfl h hl.1 q2595 q488 q487 q338 (Nat.le_of_ble_eq_true rfl) (Nat.le_of_ble_eq_true rfl) d_Mo_signature_192 (fun s_27 H locs h hP hD hS => ?_)
              refine lv_aload_n G.1 G.2.1 d_Mo_signature_195 rfl (lv_at hl 0 rfl) ?_
              refine ugf (v := .ref (yP y_22 a0 30)) G hP h_a0 iMo rfl 30 (by decide) rfl q3094 rfl rfl d_Mo_signature_196 ?_
              refine lv_aload_n G.1 G.2.1 d_Mo_signature_199 rfl (lv_at hl 0 rfl) ?_
              refine ugf (v := .int (sV s_27 a0 36)) G hP h_a0 iMo rfl 36 (by decide) rfl q3100 rfl rfl d_Mo_signature_200 ?_
              refine lv_aload_n G.1 G.2.1 d_Mo_signature_203 rfl (lv_at hl 0 rfl) ?_
              refine ugf (v := .int (sV s_27 a0 37)) G hP h_a0 iMo rfl 37 (by decide) rfl q3101 rfl rfl d_Mo_signature_204 ?_
              refine uiast G hP hD hS (kdp h_a0 rfl) (typ h_a0 rfl) h d_Mo_signature_207 (fun s_28 H locs h hP hD hS => ?_)
              refine lv_aload_n G.1 G.2.1 d_Mo_signature_208 rfl (lv_at hl 0 rfl) ?_
              refine ugf (v := .ref (yP y_22 a0 31)) G hP h_a0 iMo rfl 31 (by decide) rfl q3095 rfl rfl d_Mo_signature_209 ?_
              refine W.eq (g2 := F0 m 212 ls [.ref (yP y_22 a0 31)]) rfl ?_
              refine lv_aload_n G.1 G.2.1 d_Mo_signature_212 rfl (lv_at hl 0 rfl) ?_
              refine ugf (v := .int (sV s_28 a0 36)) G hP h_a0 iMo rfl 36 (by decide) rfl q3100 rfl rfl d_Mo_signature_213 ?_
              refine lv_iload_n G.1 G.2.1 d_Mo_signature_216 rfl (lv_at hl 2 rfl) ?_
              refine uiast G hP hD hS (kdp h_a0 rfl) (typ h_a0 rfl) h d_Mo_signature_217 (fun s_29 H locs h hP hD hS => ?_)
              refine lv_aload_n G.1 G.2.1 d_Mo_signature_218 rfl (lv_at hl 0 rfl) ?_
              refine ugf (v := .ref (yP y_22 a0 32)) G hP h_a0 iMo rfl 32 (by decide) rfl q3096 rfl rfl d_Mo_signature_219 ?_
              refine lv_aload_n G.1 G.2.1 d_Mo_signature_222 rfl (lv_at hl 0 rfl) ?_
              refine ugf (v := .int (sV s_29 a0 36)) G hP h_a0 iMo rfl 36 (by decide) rfl q3100 rfl rfl d_Mo_signature_223 ?_
              refine lv_iload_n G.1 G.2.1 d_Mo_signature_226 rfl (lv_at hl 3 rfl) ?_
              refine uiast G hP hD hS (kdp h_a0 rfl) (typ h_a0 rfl) h d_Mo_signature_227 (fun s_30 H locs h hP hD hS => ?_)
              refine lv_aload_n G.1 G.2.1 d_Mo_signature_228 rfl (lv_at hl 0 rfl) ?_
              refine ugf (v := .ref (yP y_22 a0 33)) G hP h_a0 iMo rfl 33 (by decide) rfl q3097 rfl rfl d_Mo_signature_229 ?_
              refine W.eq (g2 := F0 m 232 ls [.ref (yP y_22 a0 33)]) rfl ?_
              refine lv_aload_n G.1 G.2.1 d_Mo_signature_232 rfl (lv_at hl 0 rfl) ?_
              refine ugf (v := .int (sV s_30 a0 36)) G hP h_a0 iMo rfl 36 (by decide) rfl q3100 rfl rfl d_Mo_signature_233 ?_
              refine lv_aload_n G.1 G.2.1 d_Mo_signature_236 rfl (lv_at hl 0 rfl) ?_
              refine ugf (v := .ref (yP y_22 a0 34)) G hP h_a0 iMo rfl 34 (by decide) rfl q3098 rfl rfl d_Mo_signature_237 ?_
              refine lv_iload G.1 G.2.1 d_Mo_signature_240 (lv_at hl 4 rfl) ?_
              refine uiald G hP (kdp h_a0 rfl) (typ h_a0 rfl) h d_Mo_signature_242 (fun x_31 h => ?_)
              refine uiast G hP hD hS (kdp h_a0 rfl) (typ h_a0 rfl) h d_Mo_signature_243 (fun s_32 H locs h hP hD hS => ?_)
              refine lv_aload_n G.1 G.2.1 d_Mo_signature_244 rfl (lv_at hl 0 rfl) ?_
              refine lv_dup G.1 G.2.1 d_Mo_signature_245 rfl ?_
              refine ugf (v := .int (sV s_32 a0 37)) G hP h_a0 iMo rfl 37 (by decide) rfl q3101 rfl rfl d_Mo_signature_246 ?_
              refine lv_iload_n G.1 G.2.1 d_Mo_signature_249 rfl (lv_at hl 2 rfl) ?_
              refine lv_iadd G.1 G.2.1 d_Mo_signature_250 ?_
              refine W.eq (g2 := F0 m 251 ls [.int ((sV s_32 a0 37) + x2h58), .ref (ad a0)]) rfl ?_
              refine upf G hP hD hS h 37 putV h_a0 iMo tMo tMo_ok nMo rfl (by decide) rfl q3101 rfl rfl fV rfl rfl d_Mo_signature_251 (fun s_33 H locs h hP hD hS => ?_)
              refine lv_aload_n G.1 G.2.1 d_Mo_signature_254 rfl (lv_at hl 0 rfl) ?_
              refine lv_dup G.1 G.2.1 d_Mo_signature_255 rfl ?_
              refine ugf (v := .int (sV s_33 a0 36)) G hP h_a0 iMo rfl 36 (by decide) rfl q3100 rfl rfl d_Mo_signature_256 ?_
              refine lv_iconst (v := 1) G.1 G.2.1 d_Mo_signature_259 (by decide) ?_
              refine lv_iadd G.1 G.2.1 d_Mo_signature_260 ?_
              refine upf G hP hD hS h 36 putV h_a0 iMo tMo tMo_ok nMo rfl (by decide) rfl q3100 rfl rfl fV rfl rfl d_Mo_signature_261 (fun s_34 H locs h hP hD hS => ?_)
              refine lv_aload_n G.1 G.2.1 d_Mo_signature_264 rfl (lv_at hl 0 rfl) ?_
              refine ugf (v := .ref (yP y_22 a0 34)) G hP h_a0 iMo rfl 34 (by decide) rfl q3098 rfl rfl d_Mo_signature_265 ?_
              refine lv_iload G.1 G.2.1 d_Mo_signature_268 (lv_at hl 4 rfl) ?_
              refine lv_aload_n G.1 G.2.1 d_Mo_signature_270 rfl (lv_at hl 0 rfl) ?_
              refine ugf (v := .int (sV s_34 a0 36)) G hP h_a0 iMo rfl 36 (by decide) rfl q3100 rfl rfl d_Mo_signature_271 ?_
              refine W.eq (g2 := F0 m 274 ls [.int (sV s_34 a0 36), .int x5h58, .ref (yP y_22 a0 34)]) rfl ?_
              refine uiast G hP hD hS (kdp h_a0 rfl) (typ h_a0 rfl) h d_Mo_signature_274 (fun s_35 H locs h hP hD hS => ?_)
              refine lv_aload_n G.1 G.2.1 d_Mo_signature_275 rfl (lv_at hl 0 rfl) ?_
              refine ugf (v := .int (sV s_35 a0 36)) G hP h_a0 iMo rfl 36 (by decide) rfl q3100 rfl rfl d_Mo_signature_276 ?_
              refine lv_iconst (v := 1) G.1 G.2.1 d_Mo_signature_279 (by decide) ?_
              refine lv_isub G.1 G.2.1 d_Mo_signature_280 ?_
              exact hret _ (y_22, s_35, d_24, e_25) _ _ _ _ _ ls h hP hD hS (Nat.le_refl _) (Nat.le_refl _) hd.1 hd.2 d_Mo_signature_281
            · skip
              have h := h.2 c60
              refine lv_aload_n G.1 G.2.1 d_Mo_signature_63 rfl (lv_at hl 0 rfl) ?_
              refine lv_iload G.1 G.2.1 d_Mo_signature_64 (lv_at hl 5 rfl) ?_
              refine lv_iconst (v := 1) G.1 G.2.1 d_Mo_signature_66 (by decide) ?_
              refine lv_isub G.1 G.2.1 d_Mo_signature_67 ?_
              refine lv_aload_n G.1 G.2.1 d_Mo_signature_68 rfl (lv_at hl 1 rfl) ?_
              refine lv_iload_n G.1 G.2.1 d_Mo_signature_69 rfl (lv_at hl 2 rfl) ?_
              refine lv_iload_n G.1 G.2.1 d_Mo_signature_70 rfl (lv_at hl 3 rfl) ?_
              refine ucVi (As := [.int (x6h58 - 1), .ref (yP y_h58 a1 k1), .int x2h58, .int x3h58]) (rest := []) G hP hD hS (cu_Mo_isSignature l D g ad y_h58 _ s_h58 a0 (x6h58 - 1) a1 k1 x2h58 x3h58 H.size h_a0 ⟨h_a1.1, h_a1.2⟩ h) w9_Mo_isSignature q2627 ⟨Nat.le_of_ble_eq_true rfl, Nat.le_of_ble_eq_true rfl⟩ rfl rfl h_a0 (q := (RMo, TMo, 131)) rfl rfl hl.1 rfl (Nat.le_of_ble_eq_true rfl) rfl hd d_Mo_signature_71 (fun r_36 s_37 H locs h hP hD hS => ?_)
              refine lv_if_eq (tgt := 82) G.1 G.2.1 d_Mo_signature_74 (by decide) (fun c74 => ?_) (fun c74 => ?_)
              · skip
                have h := h.1 c74
                refine W.eq (g2 := F0 m 82 ls []) rfl ?_
                refine lv_aload_n G.1 G.2.1 d_Mo_signature_82 rfl (lv_at hl 0 rfl) ?_
                refine ugf (v := .ref (yP y_h58 a0 33)) G hP h_a0 iMo rfl 33 (by decide) rfl q3097 rfl rfl d_Mo_signature_83 ?_
                refine lv_iload G.1 G.2.1 d_Mo_signature_86 (lv_at hl 5 rfl) ?_
                refine lv_iconst (v := 1) G.1 G.2.1 d_Mo_signature_88 (by decide) ?_
                refine lv_isub G.1 G.2.1 d_Mo_signature_89 ?_
                refine uiald G hP (kdp h_a0 rfl) (typ h_a0 rfl) h d_Mo_signature_90 (fun x_38 h => ?_)
                refine lv_istore (lv' := [(6, .int x_38), (0, .ref (ad a0)), (1, .ref (yP y_h58 a1 k1)), (2, .int x2h58), (3, .int x3h58), (5, .int x5h58)]) G.1 G.2.1 d_Mo_signature_91 hl (by decide) rfl (fun ls hl => ?_)
                refine lv_goto (tgt := 58) G.1 G.2.1 d_Mo_signature_93 (by decide) ?_
                have h := hK_58 y_h58 s_37 d_h58 e_h58 x2h58 x3h58 x5h58 x_38 h
                exact ih_58 y_h58 s_37 d_h58 e_h58 x2h58 x3h58 x5h58 x_38 (Nat.lt_of_lt_of_le h.2 (Nat.le_of_lt_succ hμ_58)) h.1 H locs hP hD hS ls (lv_sub hl [1, 2, 3, 4, 5, 0] rfl)
              · skip
                have h := h.2 c74
                refine W.eq (g2 := F0 m 77 ls []) rfl ?_
                refine lv_iload G.1 G.2.1 d_Mo_signature_77 (lv_at hl 5 rfl) ?_
                refine lv_iconst (v := 1) G.1 G.2.1 d_Mo_signature_79 (by decide) ?_
                refine lv_isub G.1 G.2.1 d_Mo_signature_80 ?_
                exact hret _ (y_h58, s_37, d_h58, e_h58) _ _ _ _ _ ls h hP hD hS (Nat.le_refl _) (Nat.le_refl _) hd.1 hd.2 d_Mo_signature_81
        exact L_58 _ y_h11 s_h11 d_h11 e_h11 x2h11 x3h11 ((x4h11 ^^^ ((x4h11.toUInt32 >>> ((11 : Int32).toUInt32 &&& Int32.toUInt32 31)).toInt32)) &&& 1023) x_1 (Nat.lt_succ_self _) hI_58 H locs hP hD hS ls (lv_sub hl [2, 3, 4, 5, 1, 0] rfl)
      · skip
        have h := h.2 c14
        refine lv_bipush (v := 31) G.1 G.2.1 d_Mo_signature_17 (by decide) ?_
        refine lv_iload G.1 G.2.1 d_Mo_signature_19 (lv_at hl 4 rfl) ?_
        refine lv_imul G.1 G.2.1 d_Mo_signature_21 ?_
        refine lv_aload_n G.1 G.2.1 d_Mo_signature_22 rfl (lv_at hl 1 rfl) ?_
        refine lv_iload G.1 G.2.1 d_Mo_signature_23 (lv_at hl 5 rfl) ?_
        refine uiald G hP h_a1.1 h_a1.2 h d_Mo_signature_25 (fun x_39 h => ?_)
        refine lv_iadd G.1 G.2.1 d_Mo_signature_26 ?_
        refine lv_istore (lv' := [(4, .int ((31 * x4h11) + x_39)), (0, .ref (ad a0)), (1, .ref (yP y_h11 a1 k1)), (2, .int x2h11), (3, .int x3h11), (5, .int x5h11)]) G.1 G.2.1 d_Mo_signature_27 hl (by decide) rfl (fun ls hl => ?_)
        refine W.eq (g2 := F0 m 29 ls []) rfl ?_
        refine lv_iinc (v := x5h11 + 1) (lv' := [(5, .int (x5h11 + 1)), (4, .int ((31 * x4h11) + x_39)), (0, .ref (ad a0)), (1, .ref (yP y_h11 a1 k1)), (2, .int x2h11), (3, .int x3h11)]) G.1 G.2.1 d_Mo_signature_29 hl (k := 5) rfl rfl (by decide) rfl (fun ls hl => ?_)
        refine lv_goto (tgt := 11) G.1 G.2.1 d_Mo_signature_32 (by decide) ?_
        have h := hK_11 y_h11 s_h11 d_h11 e_h11 x2h11 x3h11 ((31 * x4h11) + x_39) (x5h11 + 1) h
        exact ih_11 y_h11 s_h11 d_h11 e_h11 x2h11 x3h11 ((31 * x4h11) + x_39) (x5h11 + 1) (Nat.lt_of_lt_of_le h.2 (Nat.le_of_lt_succ hμ_11)) h.1 H locs hP hD hS ls (lv_sub hl [2, 3, 4, 5, 1, 0] rfl)
  exact L_11 _ y σ 0 0 v2 v3 ((31 * v2) + v3) 0 (Nat.lt_succ_self _) hI_11 H locs hP hD hS ls (lv_sub hl [2, 3, 4, 5, 1, 0] rfl)
theorem q3498 : Cond.methodLink "ClassWorksModel" 107 y_Mo_isLetter ∈ lw_ok := lw_okmem (List.mem_of_getElem? (i := 3498) (by decide +kernel)) rfl
theorem q3500 : Cond.code y_Mo_isLetter b_Mo_isLetter 1 (some (.boolean)) ∈ lw_ok := lw_okmem (List.mem_of_getElem? (i := 3500) (by decide +kernel)) rfl
theorem q3499 : Cond.static y_Mo_isLetter ∈ lw_ok := lw_okmem (List.mem_of_getElem? (i := 3499) (by decide +kernel)) rfl
theorem w9_Mo_isLetter : CWv y_Mo_isLetter b_Mo_isLetter 1 (some (.boolean)) 1 ∧ Cond.static y_Mo_isLetter ∈ lw_ok := ⟨⟨q3500, q348, by decide +kernel, by decide +kernel, by decide +kernel⟩, q3499⟩
theorem q3508 : Cond.methodLink "ClassWorksModel" 118 y_Mo_number ∈ lw_ok := lw_okmem (List.mem_of_getElem? (i := 3508) (by decide +kernel)) rfl
theorem q3511 : Cond.code y_Mo_number b_Mo_number 12 (some .int) ∈ lw_ok := lw_okmem (List.mem_of_getElem? (i := 3511) (by decide +kernel)) rfl
theorem q3510 : Cond.instanceMethod y_Mo_number ∈ lw_ok := lw_okmem (List.mem_of_getElem? (i := 3510) (by decide +kernel)) rfl
theorem q181 : Cond.selects y_Mo_number.cls y_Mo_number y_Mo_number ∈ lw_ok := lw_okmem (List.mem_of_getElem? (i := 181) (by decide +kernel)) rfl
theorem w9_Mo_number : CWv y_Mo_number b_Mo_number 12 (some .int) 3 ∧ Cond.instanceMethod y_Mo_number ∈ lw_ok ∧ Cond.selects y_Mo_number.cls y_Mo_number y_Mo_number ∈ lw_ok := ⟨⟨q3511, q348, by decide +kernel, by decide +kernel, by decide +kernel⟩, q3510, q181⟩
theorem q3514 : Cond.methodLink "ClassWorksModel" 124 y_Mo_isTag ∈ lw_ok := lw_okmem (List.mem_of_getElem? (i := 3514) (by decide +kernel)) rfl
theorem q3517 : Cond.code y_Mo_isTag b_Mo_isTag 5 (some (.boolean)) ∈ lw_ok := lw_okmem (List.mem_of_getElem? (i := 3517) (by decide +kernel)) rfl
theorem q3516 : Cond.instanceMethod y_Mo_isTag ∈ lw_ok := lw_okmem (List.mem_of_getElem? (i := 3516) (by decide +kernel)) rfl
theorem q182 : Cond.selects y_Mo_isTag.cls y_Mo_isTag y_Mo_isTag ∈ lw_ok := lw_okmem (List.mem_of_getElem? (i := 182) (by decide +kernel)) rfl
theorem w9_Mo_isTag : CWv y_Mo_isTag b_Mo_isTag 5 (some (.boolean)) 4 ∧ Cond.instanceMethod y_Mo_isTag ∈ lw_ok ∧ Cond.selects y_Mo_isTag.cls y_Mo_isTag y_Mo_isTag ∈ lw_ok := ⟨⟨q3517, q348, by decide +kernel, by decide +kernel, by decide +kernel⟩, q3516, q182⟩
def y_Mo_cutLine : MethodName := ⟨"ClassWorksModel", "cutLine", "([BII)Z"⟩
abbrev b_Mo_cutLine : ByteArray := prog_14_method_12_code
theorem d_Mo_cutLine_0 : decode b_Mo_cutLine 0 = .ok (.aload_n 0, 1) := by decide +kernel
theorem d_Mo_cutLine_1 : decode b_Mo_cutLine 1 = .ok (.iconst 0, 1) := by decide +kernel
theorem d_Mo_cutLine_2 : decode b_Mo_cutLine 2 = .ok (.putfield 95, 3) := by decide +kernel
theorem d_Mo_cutLine_5 : decode b_Mo_cutLine 5 = .ok (.aload_n 0, 1) := by decide +kernel
theorem d_Mo_cutLine_6 : decode b_Mo_cutLine 6 = .ok (.iconst 0, 1) := by decide +kernel
theorem d_Mo_cutLine_7 : decode b_Mo_cutLine 7 = .ok (.putfield 104, 3) := by decide +kernel
theorem d_Mo_cutLine_10 : decode b_Mo_cutLine 10 = .ok (.iload_n 2, 1) := by decide +kernel
theorem d_Mo_cutLine_11 : decode b_Mo_cutLine 11 = .ok (.istore 4, 2) := by decide +kernel
theorem d_Mo_cutLine_13 : decode b_Mo_cutLine 13 = .ok (.iconst 1, 1) := by decide +kernel
theorem d_Mo_cutLine_14 : decode b_Mo_cutLine 14 = .ok (.istore 5, 2) := by decide +kernel
theorem d_Mo_cutLine_16 : decode b_Mo_cutLine 16 = .ok (.iload 5, 2) := by decide +kernel
theorem d_Mo_cutLine_18 : decode b_Mo_cutLine 18 = .ok (.ifCond .eq 365, 3) := by decide +kernel
theorem d_Mo_cutLine_21 : decode b_Mo_cutLine 21 = .ok (.iload 4, 2) := by decide +kernel
theorem d_Mo_cutLine_23 : decode b_Mo_cutLine 23 = .ok (.iload_n 3, 1) := by decide +kernel
theorem d_Mo_cutLine_24 : decode b_Mo_cutLine 24 = .ok (.if_icmp .ge 359, 3) := by decide +kernel
theorem d_Mo_cutLine_27 : decode b_Mo_cutLine 27 = .ok (.aload_n 1, 1) := by decide +kernel
theorem d_Mo_cutLine_28 : decode b_Mo_cutLine 28 = .ok (.iload 4, 2) := by decide +kernel
theorem d_Mo_cutLine_30 : decode b_Mo_cutLine 30 = .ok (.baload, 1) := by decide +kernel
theorem d_Mo_cutLine_31 : decode b_Mo_cutLine 31 = .ok (.bipush 35, 2) := by decide +kernel
theorem d_Mo_cutLine_33 : decode b_Mo_cutLine 33 = .ok (.if_icmp .eq 350, 3) := by decide +kernel
theorem d_Mo_cutLine_36 : decode b_Mo_cutLine 36 = .ok (.aload_n 1, 1) := by decide +kernel
theorem d_Mo_cutLine_37 : decode b_Mo_cutLine 37 = .ok (.iload 4, 2) := by decide +kernel
theorem d_Mo_cutLine_39 : decode b_Mo_cutLine 39 = .ok (.baload, 1) := by decide +kernel
theorem d_Mo_cutLine_40 : decode b_Mo_cutLine 40 = .ok (.istore 6, 2) := by decide +kernel
theorem d_Mo_cutLine_42 : decode b_Mo_cutLine 42 = .ok (.iload 4, 2) := by decide +kernel
theorem d_Mo_cutLine_44 : decode b_Mo_cutLine 44 = .ok (.iconst 1, 1) := by decide +kernel
theorem d_Mo_cutLine_45 : decode b_Mo_cutLine 45 = .ok (.iadd, 1) := by decide +kernel
theorem d_Mo_cutLine_46 : decode b_Mo_cutLine 46 = .ok (.istore 7, 2) := by decide +kernel
theorem d_Mo_cutLine_48 : decode b_Mo_cutLine 48 = .ok (.iload 6, 2) := by decide +kernel
theorem d_Mo_cutLine_50 : decode b_Mo_cutLine 50 = .ok (.invokestatic 107, 3) := by decide +kernel
theorem d_Mo_cutLine_53 : decode b_Mo_cutLine 53 = .ok (.ifCond .eq 92, 3) := by decide +kernel
theorem d_Mo_cutLine_56 : decode b_Mo_cutLine 56 = .ok (.iload 7, 2) := by decide +kernel
theorem d_Mo_cutLine_58 : decode b_Mo_cutLine 58 = .ok (.iload_n 3, 1) := by decide +kernel
theorem d_Mo_cutLine_59 : decode b_Mo_cutLine 59 = .ok (.if_icmp .ge 29, 3) := by decide +kernel
theorem d_Mo_cutLine_62 : decode b_Mo_cutLine 62 = .ok (.aload_n 1, 1) := by decide +kernel
theorem d_Mo_cutLine_63 : decode b_Mo_cutLine 63 = .ok (.iload 7, 2) := by decide +kernel
theorem d_Mo_cutLine_65 : decode b_Mo_cutLine 65 = .ok (.baload, 1) := by decide +kernel
theorem d_Mo_cutLine_66 : decode b_Mo_cutLine 66 = .ok (.invokestatic 107, 3) := by decide +kernel
theorem d_Mo_cutLine_69 : decode b_Mo_cutLine 69 = .ok (.ifCond .ne 13, 3) := by decide +kernel
theorem d_Mo_cutLine_72 : decode b_Mo_cutLine 72 = .ok (.aload_n 1, 1) := by decide +kernel
theorem d_Mo_cutLine_73 : decode b_Mo_cutLine 73 = .ok (.iload 7, 2) := by decide +kernel
theorem d_Mo_cutLine_75 : decode b_Mo_cutLine 75 = .ok (.baload, 1) := by decide +kernel
theorem d_Mo_cutLine_76 : decode b_Mo_cutLine 76 = .ok (.invokestatic 111, 3) := by decide +kernel
theorem d_Mo_cutLine_79 : decode b_Mo_cutLine 79 = .ok (.ifCond .eq 9, 3) := by decide +kernel
theorem d_Mo_cutLine_82 : decode b_Mo_cutLine 82 = .ok (.iinc 7 1, 3) := by decide +kernel
theorem d_Mo_cutLine_85 : decode b_Mo_cutLine 85 = .ok (.goto (-29), 3) := by decide +kernel
theorem d_Mo_cutLine_88 : decode b_Mo_cutLine 88 = .ok (.iload 7, 2) := by decide +kernel
theorem d_Mo_cutLine_90 : decode b_Mo_cutLine 90 = .ok (.iload 4, 2) := by decide +kernel
theorem d_Mo_cutLine_92 : decode b_Mo_cutLine 92 = .ok (.isub, 1) := by decide +kernel
theorem d_Mo_cutLine_93 : decode b_Mo_cutLine 93 = .ok (.bipush 12, 2) := by decide +kernel
theorem d_Mo_cutLine_95 : decode b_Mo_cutLine 95 = .ok (.if_icmp .gt 7, 3) := by decide +kernel
theorem d_Mo_cutLine_98 : decode b_Mo_cutLine 98 = .ok (.iconst 1, 1) := by decide +kernel
theorem d_Mo_cutLine_99 : decode b_Mo_cutLine 99 = .ok (.goto 4, 3) := by decide +kernel
theorem d_Mo_cutLine_102 : decode b_Mo_cutLine 102 = .ok (.iconst 0, 1) := by decide +kernel
theorem d_Mo_cutLine_103 : decode b_Mo_cutLine 103 = .ok (.istore 5, 2) := by decide +kernel
theorem d_Mo_cutLine_105 : decode b_Mo_cutLine 105 = .ok (.aload_n 0, 1) := by decide +kernel
theorem d_Mo_cutLine_106 : decode b_Mo_cutLine 106 = .ok (.iload 5, 2) := by decide +kernel
theorem d_Mo_cutLine_108 : decode b_Mo_cutLine 108 = .ok (.ifCond .eq 7, 3) := by decide +kernel
theorem d_Mo_cutLine_111 : decode b_Mo_cutLine 111 = .ok (.iconst 2, 1) := by decide +kernel
theorem d_Mo_cutLine_112 : decode b_Mo_cutLine 112 = .ok (.goto 4, 3) := by decide +kernel
theorem d_Mo_cutLine_115 : decode b_Mo_cutLine 115 = .ok (.iconst 1, 1) := by decide +kernel
theorem d_Mo_cutLine_116 : decode b_Mo_cutLine 116 = .ok (.iload 5, 2) := by decide +kernel
theorem d_Mo_cutLine_118 : decode b_Mo_cutLine 118 = .ok (.ifCond .eq 18, 3) := by decide +kernel
theorem d_Mo_cutLine_121 : decode b_Mo_cutLine 121 = .ok (.aload_n 0, 1) := by decide +kernel
theorem d_Mo_cutLine_122 : decode b_Mo_cutLine 122 = .ok (.aload_n 1, 1) := by decide +kernel
theorem d_Mo_cutLine_123 : decode b_Mo_cutLine 123 = .ok (.iload 4, 2) := by decide +kernel
theorem d_Mo_cutLine_125 : decode b_Mo_cutLine 125 = .ok (.iload 7, 2) := by decide +kernel
theorem d_Mo_cutLine_127 : decode b_Mo_cutLine 127 = .ok (.iload 4, 2) := by decide +kernel
theorem d_Mo_cutLine_129 : decode b_Mo_cutLine 129 = .ok (.isub, 1) := by decide +kernel
theorem d_Mo_cutLine_130 : decode b_Mo_cutLine 130 = .ok (.invokevirtual 60, 3) := by decide +kernel
theorem d_Mo_cutLine_133 : decode b_Mo_cutLine 133 = .ok (.goto 4, 3) := by decide +kernel
theorem d_Mo_cutLine_136 : decode b_Mo_cutLine 136 = .ok (.iconst 0, 1) := by decide +kernel
theorem d_Mo_cutLine_137 : decode b_Mo_cutLine 137 = .ok (.iload 4, 2) := by decide +kernel
theorem d_Mo_cutLine_139 : decode b_Mo_cutLine 139 = .ok (.invokevirtual 114, 3) := by decide +kernel
theorem d_Mo_cutLine_142 : decode b_Mo_cutLine 142 = .ok (.goto 234, 3) := by decide +kernel
theorem d_Mo_cutLine_145 : decode b_Mo_cutLine 145 = .ok (.iload 6, 2) := by decide +kernel
theorem d_Mo_cutLine_147 : decode b_Mo_cutLine 147 = .ok (.invokestatic 111, 3) := by decide +kernel
theorem d_Mo_cutLine_150 : decode b_Mo_cutLine 150 = .ok (.ifCond .ne 26, 3) := by decide +kernel
theorem d_Mo_cutLine_153 : decode b_Mo_cutLine 153 = .ok (.iload 6, 2) := by decide +kernel
theorem d_Mo_cutLine_155 : decode b_Mo_cutLine 155 = .ok (.bipush 45, 2) := by decide +kernel
theorem d_Mo_cutLine_157 : decode b_Mo_cutLine 157 = .ok (.if_icmp .ne 54, 3) := by decide +kernel
theorem d_Mo_cutLine_160 : decode b_Mo_cutLine 160 = .ok (.iload 7, 2) := by decide +kernel
theorem d_Mo_cutLine_162 : decode b_Mo_cutLine 162 = .ok (.iload_n 3, 1) := by decide +kernel
theorem d_Mo_cutLine_163 : decode b_Mo_cutLine 163 = .ok (.if_icmp .ge 48, 3) := by decide +kernel
theorem d_Mo_cutLine_166 : decode b_Mo_cutLine 166 = .ok (.aload_n 1, 1) := by decide +kernel
theorem d_Mo_cutLine_167 : decode b_Mo_cutLine 167 = .ok (.iload 7, 2) := by decide +kernel
theorem d_Mo_cutLine_169 : decode b_Mo_cutLine 169 = .ok (.baload, 1) := by decide +kernel
theorem d_Mo_cutLine_170 : decode b_Mo_cutLine 170 = .ok (.invokestatic 111, 3) := by decide +kernel
theorem d_Mo_cutLine_173 : decode b_Mo_cutLine 173 = .ok (.ifCond .eq 38, 3) := by decide +kernel
theorem d_Mo_cutLine_176 : decode b_Mo_cutLine 176 = .ok (.aload_n 0, 1) := by decide +kernel
theorem d_Mo_cutLine_177 : decode b_Mo_cutLine 177 = .ok (.aload_n 1, 1) := by decide +kernel
theorem d_Mo_cutLine_178 : decode b_Mo_cutLine 178 = .ok (.iload 4, 2) := by decide +kernel
theorem d_Mo_cutLine_180 : decode b_Mo_cutLine 180 = .ok (.iload_n 3, 1) := by decide +kernel
theorem d_Mo_cutLine_181 : decode b_Mo_cutLine 181 = .ok (.invokevirtual 118, 3) := by decide +kernel
theorem d_Mo_cutLine_184 : decode b_Mo_cutLine 184 = .ok (.istore 7, 2) := by decide +kernel
theorem d_Mo_cutLine_186 : decode b_Mo_cutLine 186 = .ok (.aload_n 0, 1) := by decide +kernel
theorem d_Mo_cutLine_187 : decode b_Mo_cutLine 187 = .ok (.getfield 92, 3) := by decide +kernel
theorem d_Mo_cutLine_190 : decode b_Mo_cutLine 190 = .ok (.aload_n 0, 1) := by decide +kernel
theorem d_Mo_cutLine_191 : decode b_Mo_cutLine 191 = .ok (.getfield 95, 3) := by decide +kernel
theorem d_Mo_cutLine_194 : decode b_Mo_cutLine 194 = .ok (.iconst 1, 1) := by decide +kernel
theorem d_Mo_cutLine_195 : decode b_Mo_cutLine 195 = .ok (.isub, 1) := by decide +kernel
theorem d_Mo_cutLine_196 : decode b_Mo_cutLine 196 = .ok (.baload, 1) := by decide +kernel
theorem d_Mo_cutLine_197 : decode b_Mo_cutLine 197 = .ok (.iconst 1, 1) := by decide +kernel
theorem d_Mo_cutLine_198 : decode b_Mo_cutLine 198 = .ok (.if_icmp .eq 7, 3) := by decide +kernel
theorem d_Mo_cutLine_201 : decode b_Mo_cutLine 201 = .ok (.iconst 1, 1) := by decide +kernel
theorem d_Mo_cutLine_202 : decode b_Mo_cutLine 202 = .ok (.goto 4, 3) := by decide +kernel
theorem d_Mo_cutLine_205 : decode b_Mo_cutLine 205 = .ok (.iconst 0, 1) := by decide +kernel
theorem d_Mo_cutLine_206 : decode b_Mo_cutLine 206 = .ok (.istore 5, 2) := by decide +kernel
theorem d_Mo_cutLine_208 : decode b_Mo_cutLine 208 = .ok (.goto 168, 3) := by decide +kernel
theorem d_Mo_cutLine_211 : decode b_Mo_cutLine 211 = .ok (.iload 6, 2) := by decide +kernel
theorem d_Mo_cutLine_213 : decode b_Mo_cutLine 213 = .ok (.bipush 58, 2) := by decide +kernel
theorem d_Mo_cutLine_215 : decode b_Mo_cutLine 215 = .ok (.if_icmp .eq 45, 3) := by decide +kernel
theorem d_Mo_cutLine_218 : decode b_Mo_cutLine 218 = .ok (.iload 6, 2) := by decide +kernel
theorem d_Mo_cutLine_220 : decode b_Mo_cutLine 220 = .ok (.bipush 44, 2) := by decide +kernel
theorem d_Mo_cutLine_222 : decode b_Mo_cutLine 222 = .ok (.if_icmp .eq 38, 3) := by decide +kernel
theorem d_Mo_cutLine_225 : decode b_Mo_cutLine 225 = .ok (.iload 6, 2) := by decide +kernel
theorem d_Mo_cutLine_227 : decode b_Mo_cutLine 227 = .ok (.bipush 59, 2) := by decide +kernel
theorem d_Mo_cutLine_229 : decode b_Mo_cutLine 229 = .ok (.if_icmp .eq 31, 3) := by decide +kernel
theorem d_Mo_cutLine_232 : decode b_Mo_cutLine 232 = .ok (.iload 6, 2) := by decide +kernel
theorem d_Mo_cutLine_234 : decode b_Mo_cutLine 234 = .ok (.bipush 40, 2) := by decide +kernel
theorem d_Mo_cutLine_236 : decode b_Mo_cutLine 236 = .ok (.if_icmp .eq 24, 3) := by decide +kernel
theorem d_Mo_cutLine_239 : decode b_Mo_cutLine 239 = .ok (.iload 6, 2) := by decide +kernel
theorem d_Mo_cutLine_241 : decode b_Mo_cutLine 241 = .ok (.bipush 41, 2) := by decide +kernel
theorem d_Mo_cutLine_243 : decode b_Mo_cutLine 243 = .ok (.if_icmp .eq 17, 3) := by decide +kernel
theorem d_Mo_cutLine_246 : decode b_Mo_cutLine 246 = .ok (.iload 6, 2) := by decide +kernel
theorem d_Mo_cutLine_248 : decode b_Mo_cutLine 248 = .ok (.bipush 46, 2) := by decide +kernel
theorem d_Mo_cutLine_250 : decode b_Mo_cutLine 250 = .ok (.if_icmp .eq 10, 3) := by decide +kernel
theorem d_Mo_cutLine_253 : decode b_Mo_cutLine 253 = .ok (.iload 6, 2) := by decide +kernel
theorem d_Mo_cutLine_255 : decode b_Mo_cutLine 255 = .ok (.bipush 61, 2) := by decide +kernel
theorem d_Mo_cutLine_257 : decode b_Mo_cutLine 257 = .ok (.if_icmp .ne 15, 3) := by decide +kernel
theorem d_Mo_cutLine_260 : decode b_Mo_cutLine 260 = .ok (.aload_n 0, 1) := by decide +kernel
theorem d_Mo_cutLine_261 : decode b_Mo_cutLine 261 = .ok (.iload 6, 2) := by decide +kernel
theorem d_Mo_cutLine_263 : decode b_Mo_cutLine 263 = .ok (.iconst 0, 1) := by decide +kernel
theorem d_Mo_cutLine_264 : decode b_Mo_cutLine 264 = .ok (.iload 4, 2) := by decide +kernel
theorem d_Mo_cutLine_266 : decode b_Mo_cutLine 266 = .ok (.invokevirtual 114, 3) := by decide +kernel
theorem d_Mo_cutLine_269 : decode b_Mo_cutLine 269 = .ok (.goto 107, 3) := by decide +kernel
theorem d_Mo_cutLine_272 : decode b_Mo_cutLine 272 = .ok (.iload 6, 2) := by decide +kernel
theorem d_Mo_cutLine_274 : decode b_Mo_cutLine 274 = .ok (.bipush 60, 2) := by decide +kernel
theorem d_Mo_cutLine_276 : decode b_Mo_cutLine 276 = .ok (.if_icmp .ne 39, 3) := by decide +kernel
theorem d_Mo_cutLine_279 : decode b_Mo_cutLine 279 = .ok (.aload_n 0, 1) := by decide +kernel
theorem d_Mo_cutLine_280 : decode b_Mo_cutLine 280 = .ok (.aload_n 0, 1) := by decide +kernel
theorem d_Mo_cutLine_281 : decode b_Mo_cutLine 281 = .ok (.getfield 121, 3) := by decide +kernel
theorem d_Mo_cutLine_284 : decode b_Mo_cutLine 284 = .ok (.aload_n 1, 1) := by decide +kernel
theorem d_Mo_cutLine_285 : decode b_Mo_cutLine 285 = .ok (.iload 4, 2) := by decide +kernel
theorem d_Mo_cutLine_287 : decode b_Mo_cutLine 287 = .ok (.iload_n 3, 1) := by decide +kernel
theorem d_Mo_cutLine_288 : decode b_Mo_cutLine 288 = .ok (.invokevirtual 124, 3) := by decide +kernel
theorem d_Mo_cutLine_291 : decode b_Mo_cutLine 291 = .ok (.ifCond .eq 24, 3) := by decide +kernel
theorem d_Mo_cutLine_294 : decode b_Mo_cutLine 294 = .ok (.aload_n 0, 1) := by decide +kernel
theorem d_Mo_cutLine_295 : decode b_Mo_cutLine 295 = .ok (.iconst 3, 1) := by decide +kernel
theorem d_Mo_cutLine_296 : decode b_Mo_cutLine 296 = .ok (.aload_n 0, 1) := by decide +kernel
theorem d_Mo_cutLine_297 : decode b_Mo_cutLine 297 = .ok (.getfield 121, 3) := by decide +kernel
theorem d_Mo_cutLine_300 : decode b_Mo_cutLine 300 = .ok (.iload 4, 2) := by decide +kernel
theorem d_Mo_cutLine_302 : decode b_Mo_cutLine 302 = .ok (.invokevirtual 114, 3) := by decide +kernel
theorem d_Mo_cutLine_305 : decode b_Mo_cutLine 305 = .ok (.iload 4, 2) := by decide +kernel
theorem d_Mo_cutLine_307 : decode b_Mo_cutLine 307 = .ok (.bipush 6, 2) := by decide +kernel
theorem d_Mo_cutLine_309 : decode b_Mo_cutLine 309 = .ok (.iadd, 1) := by decide +kernel
theorem d_Mo_cutLine_310 : decode b_Mo_cutLine 310 = .ok (.istore 7, 2) := by decide +kernel
theorem d_Mo_cutLine_312 : decode b_Mo_cutLine 312 = .ok (.goto 64, 3) := by decide +kernel
theorem d_Mo_cutLine_315 : decode b_Mo_cutLine 315 = .ok (.iload 6, 2) := by decide +kernel
theorem d_Mo_cutLine_317 : decode b_Mo_cutLine 317 = .ok (.bipush 60, 2) := by decide +kernel
theorem d_Mo_cutLine_319 : decode b_Mo_cutLine 319 = .ok (.if_icmp .ne 39, 3) := by decide +kernel
theorem d_Mo_cutLine_322 : decode b_Mo_cutLine 322 = .ok (.aload_n 0, 1) := by decide +kernel
theorem d_Mo_cutLine_323 : decode b_Mo_cutLine 323 = .ok (.aload_n 0, 1) := by decide +kernel
theorem d_Mo_cutLine_324 : decode b_Mo_cutLine 324 = .ok (.getfield 127, 3) := by decide +kernel
theorem d_Mo_cutLine_327 : decode b_Mo_cutLine 327 = .ok (.aload_n 1, 1) := by decide +kernel
theorem d_Mo_cutLine_328 : decode b_Mo_cutLine 328 = .ok (.iload 4, 2) := by decide +kernel
theorem d_Mo_cutLine_330 : decode b_Mo_cutLine 330 = .ok (.iload_n 3, 1) := by decide +kernel
theorem d_Mo_cutLine_331 : decode b_Mo_cutLine 331 = .ok (.invokevirtual 124, 3) := by decide +kernel
theorem d_Mo_cutLine_334 : decode b_Mo_cutLine 334 = .ok (.ifCond .eq 24, 3) := by decide +kernel
theorem d_Mo_cutLine_337 : decode b_Mo_cutLine 337 = .ok (.aload_n 0, 1) := by decide +kernel
theorem d_Mo_cutLine_338 : decode b_Mo_cutLine 338 = .ok (.iconst 3, 1) := by decide +kernel
theorem d_Mo_cutLine_339 : decode b_Mo_cutLine 339 = .ok (.aload_n 0, 1) := by decide +kernel
theorem d_Mo_cutLine_340 : decode b_Mo_cutLine 340 = .ok (.getfield 127, 3) := by decide +kernel
theorem d_Mo_cutLine_343 : decode b_Mo_cutLine 343 = .ok (.iload 4, 2) := by decide +kernel
theorem d_Mo_cutLine_345 : decode b_Mo_cutLine 345 = .ok (.invokevirtual 114, 3) := by decide +kernel
theorem d_Mo_cutLine_348 : decode b_Mo_cutLine 348 = .ok (.iload 4, 2) := by decide +kernel
theorem d_Mo_cutLine_350 : decode b_Mo_cutLine 350 = .ok (.bipush 7, 2) := by decide +kernel
theorem d_Mo_cutLine_352 : decode b_Mo_cutLine 352 = .ok (.iadd, 1) := by decide +kernel
theorem d_Mo_cutLine_353 : decode b_Mo_cutLine 353 = .ok (.istore 7, 2) := by decide +kernel
theorem d_Mo_cutLine_355 : decode b_Mo_cutLine 355 = .ok (.goto 21, 3) := by decide +kernel
theorem d_Mo_cutLine_358 : decode b_Mo_cutLine 358 = .ok (.iload 6, 2) := by decide +kernel
theorem d_Mo_cutLine_360 : decode b_Mo_cutLine 360 = .ok (.bipush 32, 2) := by decide +kernel
theorem d_Mo_cutLine_362 : decode b_Mo_cutLine 362 = .ok (.if_icmp .eq 14, 3) := by decide +kernel
theorem d_Mo_cutLine_365 : decode b_Mo_cutLine 365 = .ok (.aload_n 0, 1) := by decide +kernel
theorem d_Mo_cutLine_366 : decode b_Mo_cutLine 366 = .ok (.iconst 1, 1) := by decide +kernel
theorem d_Mo_cutLine_367 : decode b_Mo_cutLine 367 = .ok (.iconst 0, 1) := by decide +kernel
theorem d_Mo_cutLine_368 : decode b_Mo_cutLine 368 = .ok (.iload 4, 2) := by decide +kernel
theorem d_Mo_cutLine_370 : decode b_Mo_cutLine 370 = .ok (.invokevirtual 114, 3) := by decide +kernel
theorem d_Mo_cutLine_373 : decode b_Mo_cutLine 373 = .ok (.iconst 0, 1) := by decide +kernel
theorem d_Mo_cutLine_374 : decode b_Mo_cutLine 374 = .ok (.istore 5, 2) := by decide +kernel
theorem d_Mo_cutLine_376 : decode b_Mo_cutLine 376 = .ok (.iload 7, 2) := by decide +kernel
theorem d_Mo_cutLine_378 : decode b_Mo_cutLine 378 = .ok (.istore 4, 2) := by decide +kernel
theorem d_Mo_cutLine_380 : decode b_Mo_cutLine 380 = .ok (.goto (-364), 3) := by decide +kernel
theorem d_Mo_cutLine_383 : decode b_Mo_cutLine 383 = .ok (.aload_n 0, 1) := by decide +kernel
theorem d_Mo_cutLine_384 : decode b_Mo_cutLine 384 = .ok (.getfield 95, 3) := by decide +kernel
theorem d_Mo_cutLine_387 : decode b_Mo_cutLine 387 = .ok (.ifCond .le 7, 3) := by decide +kernel
theorem d_Mo_cutLine_390 : decode b_Mo_cutLine 390 = .ok (.iconst 1, 1) := by decide +kernel
theorem d_Mo_cutLine_391 : decode b_Mo_cutLine 391 = .ok (.goto 4, 3) := by decide +kernel
theorem d_Mo_cutLine_394 : decode b_Mo_cutLine 394 = .ok (.iconst 0, 1) := by decide +kernel
theorem d_Mo_cutLine_395 : decode b_Mo_cutLine 395 = .ok (.istore 6, 2) := by decide +kernel
theorem d_Mo_cutLine_397 : decode b_Mo_cutLine 397 = .ok (.aload_n 0, 1) := by decide +kernel
theorem d_Mo_cutLine_398 : decode b_Mo_cutLine 398 = .ok (.iconst 0, 1) := by decide +kernel
theorem d_Mo_cutLine_399 : decode b_Mo_cutLine 399 = .ok (.iconst 0, 1) := by decide +kernel
theorem d_Mo_cutLine_400 : decode b_Mo_cutLine 400 = .ok (.iload_n 3, 1) := by decide +kernel
theorem d_Mo_cutLine_401 : decode b_Mo_cutLine 401 = .ok (.invokevirtual 114, 3) := by decide +kernel
theorem d_Mo_cutLine_404 : decode b_Mo_cutLine 404 = .ok (.iload 6, 2) := by decide +kernel
theorem d_Mo_cutLine_406 : decode b_Mo_cutLine 406 = .ok (.ireturn, 1) := by decide +kernel
abbrev ra_Mo_cutLine (mc ms : Nat) : Room := { frames := 3, cells := mc, slots := ms, locals := 176 }
def wja_Mo_cutLine_395 (mc ms : Nat) (Post : Ly → St → Int32 → Nat → Nat → Prop) (a0 : Nat) (a1 : Nat) (k1 : Nat) (y_j395 : Ly) (s_j395 : St) (d_j395 e_j395 : Nat) (x3j395 : Int32) (z0j395 : Int32) : Prop := (d_j395 ≤ mc ∧ e_j395 ≤ ms) ∧ wu_Mo_addWord y_j395 (fun (s_4 : St) => (nb z0j395 ∧ Post y_j395 s_4 z0j395 d_j395 e_j395)) s_j395 a0 0 0 x3j395
def wja_Mo_cutLine_383 (mc ms : Nat) (Post : Ly → St → Int32 → Nat → Nat → Prop) (a0 : Nat) (a1 : Nat) (k1 : Nat) (y_j383 : Ly) (s_j383 : St) (d_j383 e_j383 : Nat) (x3j383 : Int32) : Prop := (d_j383 ≤ mc ∧ e_j383 ≤ ms) ∧ (((sV s_j383 a0 42) ≤ 0 → wja_Mo_cutLine_395 mc ms Post a0 a1 k1 y_j383 s_j383 d_j383 e_j383 x3j383 0) ∧ (¬ ((sV s_j383 a0 42) ≤ 0) → wja_Mo_cutLine_395 mc ms Post a0 a1 k1 y_j383 s_j383 d_j383 e_j383 x3j383 1))
def wja_Mo_cutLine_376 (mc ms : Nat) (Post : Ly → St → Int32 → Nat → Nat → Prop) (K_16 : Ly → St → Nat → Nat → Int32 → Int32 → Int32 → Prop) (a0 : Nat) (a1 : Nat) (k1 : Nat) (y_j376 : Ly) (s_j376 : St) (d_j376 e_j376 : Nat) (x3j376 : Int32) (x5j376 : Int32) (x7j376 : Int32) : Prop := (d_j376 ≤ mc ∧ e_j376 ≤ ms) ∧ K_16 y_j376 s_j376 d_j376 e_j376 x3j376 x7j376 x5j376
def wja_Mo_cutLine_206 (mc ms : Nat) (Post : Ly → St → Int32 → Nat → Nat → Prop) (K_16 : Ly → St → Nat → Nat → Int32 → Int32 → Int32 → Prop) (a0 : Nat) (a1 : Nat) (k1 : Nat) (y_j206 : Ly) (s_j206 : St) (d_j206 e_j206 : Nat) (x3j206 : Int32) (x7j206 : Int32) (z0j206 : Int32) : Prop := (d_j206 ≤ mc ∧ e_j206 ≤ ms) ∧ wja_Mo_cutLine_376 mc ms Post K_16 a0 a1 k1 y_j206 s_j206 d_j206 e_j206 x3j206 z0j206 x7j206
def wja_Mo_cutLine_176 (mc ms : Nat) (Post : Ly → St → Int32 → Nat → Nat → Prop) (K_16 : Ly → St → Nat → Nat → Int32 → Int32 → Int32 → Prop) (a0 : Nat) (a1 : Nat) (k1 : Nat) (y_j176 : Ly) (s_j176 : St) (d_j176 e_j176 : Nat) (x3j176 : Int32) (x4j176 : Int32) : Prop := (d_j176 ≤ mc ∧ e_j176 ≤ ms) ∧ wu_Mo_number y_j176 (fun (s_12 : St) (r_11 : Int32) => xA y_j176 s_12 a0 39 ((sV s_12 a0 42) - 1) (fun x_13 : Int32 => ((x_13 = 1 → wja_Mo_cutLine_206 mc ms Post K_16 a0 a1 k1 y_j176 s_12 d_j176 e_j176 x3j176 r_11 0) ∧ (¬ (x_13 = 1) → wja_Mo_cutLine_206 mc ms Post K_16 a0 a1 k1 y_j176 s_12 d_j176 e_j176 x3j176 r_11 1)))) s_j176 a0 a1 k1 x4j176 x3j176
def wja_Mo_cutLine_260 (mc ms : Nat) (Post : Ly → St → Int32 → Nat → Nat → Prop) (K_16 : Ly → St → Nat → Nat → Int32 → Int32 → Int32 → Prop) (a0 : Nat) (a1 : Nat) (k1 : Nat) (y_j260 : Ly) (s_j260 : St) (d_j260 e_j260 : Nat) (x3j260 : Int32) (x4j260 : Int32) (x5j260 : Int32) (x6j260 : Int32) (x7j260 : Int32) : Prop := (d_j260 ≤ mc ∧ e_j260 ≤ ms) ∧ wu_Mo_addWord y_j260 (fun (s_15 : St) => wja_Mo_cutLine_376 mc ms Post K_16 a0 a1 k1 y_j260 s_15 d_j260 e_j260 x3j260 x5j260 x7j260) s_j260 a0 x6j260 0 x4j260
def wja_Mo_cutLine_358 (mc ms : Nat) (Post : Ly → St → Int32 → Nat → Nat → Prop) (K_16 : Ly → St → Nat → Nat → Int32 → Int32 → Int32 → Prop) (a0 : Nat) (a1 : Nat) (k1 : Nat) (y_j358 : Ly) (s_j358 : St) (d_j358 e_j358 : Nat) (x3j358 : Int32) (x4j358 : Int32) (x5j358 : Int32) (x6j358 : Int32) (x7j358 : Int32) : Prop := (d_j358 ≤ mc ∧ e_j358 ≤ ms) ∧ ((x6j358 = 32 → wja_Mo_cutLine_376 mc ms Post K_16 a0 a1 k1 y_j358 s_j358 d_j358 e_j358 x3j358 x5j358 x7j358) ∧ (¬ (x6j358 = 32) → wu_Mo_addWord y_j358 (fun (s_17 : St) => wja_Mo_cutLine_376 mc ms Post K_16 a0 a1 k1 y_j358 s_17 d_j358 e_j358 x3j358 0 x7j358) s_j358 a0 1 0 x4j358))
def wja_Mo_cutLine_315 (mc ms : Nat) (Post : Ly → St → Int32 → Nat → Nat → Prop) (K_16 : Ly → St → Nat → Nat → Int32 → Int32 → Int32 → Prop) (a0 : Nat) (a1 : Nat) (k1 : Nat) (y_j315 : Ly) (s_j315 : St) (d_j315 e_j315 : Nat) (x3j315 : Int32) (x4j315 : Int32) (x5j315 : Int32) (x6j315 : Int32) (x7j315 : Int32) : Prop := (d_j315 ≤ mc ∧ e_j315 ≤ ms) ∧ ((¬ x6j315 = 60 → wja_Mo_cutLine_358 mc ms Post K_16 a0 a1 k1 y_j315 s_j315 d_j315 e_j315 x3j315 x4j315 x5j315 x6j315 x7j315) ∧ (x6j315 = 60 → wu_Mo_isTag y_j315 (fun (s_19 : St) (r_18 : Int32) => ((r_18 = 0 → wja_Mo_cutLine_358 mc ms Post K_16 a0 a1 k1 y_j315 s_19 d_j315 e_j315 x3j315 x4j315 x5j315 x6j315 x7j315) ∧ (¬ (r_18 = 0) → wu_Mo_addWord y_j315 (fun (s_21 : St) => wja_Mo_cutLine_376 mc ms Post K_16 a0 a1 k1 y_j315 s_21 d_j315 e_j315 x3j315 x5j315 (x4j315 + 7)) s_19 a0 3 (sV s_19 a0 7) x4j315))) s_j315 a0 (sV s_j315 a0 7) a1 k1 x4j315 x3j315))
def wja_Mo_cutLine_211 (mc ms : Nat) (Post : Ly → St → Int32 → Nat → Nat → Prop) (K_16 : Ly → St → Nat → Nat → Int32 → Int32 → Int32 → Prop) (a0 : Nat) (a1 : Nat) (k1 : Nat) (y_j211 : Ly) (s_j211 : St) (d_j211 e_j211 : Nat) (x3j211 : Int32) (x4j211 : Int32) (x5j211 : Int32) (x6j211 : Int32) (x7j211 : Int32) : Prop := (d_j211 ≤ mc ∧ e_j211 ≤ ms) ∧ ((x6j211 = 58 → wja_Mo_cutLine_260 mc ms Post K_16 a0 a1 k1 y_j211 s_j211 d_j211 e_j211 x3j211 x4j211 x5j211 x6j211 x7j211) ∧ (¬ (x6j211 = 58) → ((x6j211 = 44 → wja_Mo_cutLine_260 mc ms Post K_16 a0 a1 k1 y_j211 s_j211 d_j211 e_j211 x3j211 x4j211 x5j211 x6j211 x7j211) ∧ (¬ (x6j211 = 44) → ((x6j211 = 59 → wja_Mo_cutLine_260 mc ms Post K_16 a0 a1 k1 y_j211 s_j211 d_j211 e_j211 x3j211 x4j211 x5j211 x6j211 x7j211) ∧ (¬ (x6j211 = 59) → ((x6j211 = 40 → wja_Mo_cutLine_260 mc ms Post K_16 a0 a1 k1 y_j211 s_j211 d_j211 e_j211 x3j211 x4j211 x5j211 x6j211 x7j211) ∧ (¬ (x6j211 = 40) → ((x6j211 = 41 → wja_Mo_cutLine_260 mc ms Post K_16 a0 a1 k1 y_j211 s_j211 d_j211 e_j211 x3j211 x4j211 x5j211 x6j211 x7j211) ∧ (¬ (x6j211 = 41) → ((x6j211 = 46 → wja_Mo_cutLine_260 mc ms Post K_16 a0 a1 k1 y_j211 s_j211 d_j211 e_j211 x3j211 x4j211 x5j211 x6j211 x7j211) ∧ (¬ (x6j211 = 46) → ((¬ x6j211 = 61 → ((¬ x6j211 = 60 → wja_Mo_cutLine_315 mc ms Post K_16 a0 a1 k1 y_j211 s_j211 d_j211 e_j211 x3j211 x4j211 x5j211 x6j211 x7j211) ∧ (x6j211 = 60 → wu_Mo_isTag y_j211 (fun (s_23 : St) (r_22 : Int32) => ((r_22 = 0 → wja_Mo_cutLine_315 mc ms Post K_16 a0 a1 k1 y_j211 s_23 d_j211 e_j211 x3j211 x4j211 x5j211 x6j211 x7j211) ∧ (¬ (r_22 = 0) → wu_Mo_addWord y_j211 (fun (s_25 : St) => wja_Mo_cutLine_376 mc ms Post K_16 a0 a1 k1 y_j211 s_25 d_j211 e_j211 x3j211 x5j211 (x4j211 + 6)) s_23 a0 3 (sV s_23 a0 6) x4j211))) s_j211 a0 (sV s_j211 a0 6) a1 k1 x4j211 x3j211))) ∧ (x6j211 = 61 → wja_Mo_cutLine_260 mc ms Post K_16 a0 a1 k1 y_j211 s_j211 d_j211 e_j211 x3j211 x4j211 x5j211 x6j211 x7j211))))))))))))))
def wja_Mo_cutLine_137 (mc ms : Nat) (Post : Ly → St → Int32 → Nat → Nat → Prop) (K_16 : Ly → St → Nat → Nat → Int32 → Int32 → Int32 → Prop) (a0 : Nat) (a1 : Nat) (k1 : Nat) (y_j137 : Ly) (s_j137 : St) (d_j137 e_j137 : Nat) (x3j137 : Int32) (x4j137 : Int32) (x5j137 : Int32) (x7j137 : Int32) (z1j137 : Int32) (z2j137 : Int32) : Prop := (d_j137 ≤ mc ∧ e_j137 ≤ ms) ∧ wu_Mo_addWord y_j137 (fun (s_30 : St) => wja_Mo_cutLine_376 mc ms Post K_16 a0 a1 k1 y_j137 s_30 d_j137 e_j137 x3j137 x5j137 x7j137) s_j137 a0 z1j137 z2j137 x4j137
def wja_Mo_cutLine_116 (mc ms : Nat) (Post : Ly → St → Int32 → Nat → Nat → Prop) (K_16 : Ly → St → Nat → Nat → Int32 → Int32 → Int32 → Prop) (a0 : Nat) (a1 : Nat) (k1 : Nat) (y_j116 : Ly) (s_j116 : St) (d_j116 e_j116 : Nat) (x3j116 : Int32) (x4j116 : Int32) (x5j116 : Int32) (x7j116 : Int32) (z1j116 : Int32) : Prop := (d_j116 ≤ mc ∧ e_j116 ≤ ms) ∧ ((x5j116 = 0 → wja_Mo_cutLine_137 mc ms Post K_16 a0 a1 k1 y_j116 s_j116 d_j116 e_j116 x3j116 x4j116 x5j116 x7j116 z1j116 0) ∧ (¬ (x5j116 = 0) → ∃ mc_36 ms_37 : Nat, (d_j116 + mc_36 ≤ mc ∧ e_j116 + ms_37 ≤ ms) ∧ wa_Mo_nameIn mc_36 ms_37 y_j116 (fun (y_33 : Ly) (s_32 : St) (r_31 : Int32) (d_34 e_35 : Nat) => (d_j116 + d_34 ≤ mc ∧ e_j116 + e_35 ≤ ms) ∧ yP y_j116 a1 k1 = yP y_33 a1 k1 ∧ wja_Mo_cutLine_137 mc ms Post K_16 a0 a1 k1 y_33 s_32 (d_j116 + d_34) (e_j116 + e_35) x3j116 x4j116 x5j116 x7j116 z1j116 r_31) s_j116 a0 a1 k1 x4j116 (x7j116 - x4j116)))
def wja_Mo_cutLine_103 (mc ms : Nat) (Post : Ly → St → Int32 → Nat → Nat → Prop) (K_16 : Ly → St → Nat → Nat → Int32 → Int32 → Int32 → Prop) (a0 : Nat) (a1 : Nat) (k1 : Nat) (y_j103 : Ly) (s_j103 : St) (d_j103 e_j103 : Nat) (x3j103 : Int32) (x4j103 : Int32) (x7j103 : Int32) (z0j103 : Int32) : Prop := (d_j103 ≤ mc ∧ e_j103 ≤ ms) ∧ ((z0j103 = 0 → wja_Mo_cutLine_116 mc ms Post K_16 a0 a1 k1 y_j103 s_j103 d_j103 e_j103 x3j103 x4j103 z0j103 x7j103 1) ∧ (¬ (z0j103 = 0) → wja_Mo_cutLine_116 mc ms Post K_16 a0 a1 k1 y_j103 s_j103 d_j103 e_j103 x3j103 x4j103 z0j103 x7j103 2))
def wja_Mo_cutLine_88 (mc ms : Nat) (Post : Ly → St → Int32 → Nat → Nat → Prop) (K_16 : Ly → St → Nat → Nat → Int32 → Int32 → Int32 → Prop) (a0 : Nat) (a1 : Nat) (k1 : Nat) (y_j88 : Ly) (s_j88 : St) (d_j88 e_j88 : Nat) (x3j88 : Int32) (x4j88 : Int32) (x7j88 : Int32) : Prop := (d_j88 ≤ mc ∧ e_j88 ≤ ms) ∧ ((12 < (x7j88 - x4j88) → wja_Mo_cutLine_103 mc ms Post K_16 a0 a1 k1 y_j88 s_j88 d_j88 e_j88 x3j88 x4j88 x7j88 0) ∧ (¬ (12 < (x7j88 - x4j88)) → wja_Mo_cutLine_103 mc ms Post K_16 a0 a1 k1 y_j88 s_j88 d_j88 e_j88 x3j88 x4j88 x7j88 1))
def wja_Mo_cutLine_82 (mc ms : Nat) (Post : Ly → St → Int32 → Nat → Nat → Prop) (K_16 : Ly → St → Nat → Nat → Int32 → Int32 → Int32 → Prop) (K_56 : Ly → St → Nat → Nat → Int32 → Int32 → Int32 → Prop) (a0 : Nat) (a1 : Nat) (k1 : Nat) (y_j82 : Ly) (s_j82 : St) (d_j82 e_j82 : Nat) (x3j82 : Int32) (x4j82 : Int32) (x7j82 : Int32) : Prop := (d_j82 ≤ mc ∧ e_j82 ≤ ms) ∧ K_56 y_j82 s_j82 d_j82 e_j82 x3j82 x4j82 (x7j82 + 1)
def wba_Mo_cutLine_56 (mc ms : Nat) (Post : Ly → St → Int32 → Nat → Nat → Prop) (K_16 : Ly → St → Nat → Nat → Int32 → Int32 → Int32 → Prop) (K_56 : Ly → St → Nat → Nat → Int32 → Int32 → Int32 → Prop) (a0 : Nat) (a1 : Nat) (k1 : Nat) (y_h56 : Ly) (s_h56 : St) (d_h56 e_h56 : Nat) (x3h56 : Int32) (x4h56 : Int32) (x7h56 : Int32) : Prop := (d_h56 ≤ mc ∧ e_h56 ≤ ms) ∧ ((x3h56 ≤ x7h56 → wja_Mo_cutLine_88 mc ms Post K_16 a0 a1 k1 y_h56 s_h56 d_h56 e_h56 x3h56 x4h56 x7h56) ∧ (¬ (x3h56 ≤ x7h56) → xA y_h56 s_h56 a1 k1 x7h56 (fun x_40 : Int32 => wu_Mo_isLetter y_h56 (fun (s_42 : St) (r_41 : Int32) => ((¬ r_41 = 0 → wja_Mo_cutLine_82 mc ms Post K_16 K_56 a0 a1 k1 y_h56 s_42 d_h56 e_h56 x3h56 x4h56 x7h56) ∧ (r_41 = 0 → xA y_h56 s_42 a1 k1 x7h56 (fun x_43 : Int32 => wu_Mo_isDigit y_h56 (fun (s_45 : St) (r_44 : Int32) => ((r_44 = 0 → wja_Mo_cutLine_88 mc ms Post K_16 a0 a1 k1 y_h56 s_45 d_h56 e_h56 x3h56 x4h56 x7h56) ∧ (¬ (r_44 = 0) → wja_Mo_cutLine_82 mc ms Post K_16 K_56 a0 a1 k1 y_h56 s_45 d_h56 e_h56 x3h56 x4h56 x7h56))) s_42 x_43)))) s_h56 x_40)))
def wla_Mo_cutLine_56 (mc ms : Nat) (Post : Ly → St → Int32 → Nat → Nat → Prop) (K_16 : Ly → St → Nat → Nat → Int32 → Int32 → Int32 → Prop) (a0 : Nat) (a1 : Nat) (k1 : Nat) (y_h56 : Ly) (s_h56 : St) (d_h56 e_h56 : Nat) (x3h56 : Int32) (x4h56 : Int32) (x7h56 : Int32) : Prop := ∃ (I : Ly → St → Nat → Nat → Int32 → Int32 → Int32 → Prop) (μ : Ly → St → Nat → Nat → Int32 → Int32 → Int32 → Nat), I y_h56 s_h56 d_h56 e_h56 x3h56 x4h56 x7h56 ∧ ∀ (u1 : Ly) (u2 : St) (u3 u4 : Nat) (t0 : Int32) (t1 : Int32) (t2 : Int32), I u1 u2 u3 u4 t0 t1 t2 → wba_Mo_cutLine_56 mc ms Post K_16 (fun z1 z2 z3 z4 t0q t1q t2q => I z1 z2 z3 z4 t0q t1q t2q ∧ μ z1 z2 z3 z4 t0q t1q t2q < μ u1 u2 u3 u4 t0 t1 t2) a0 a1 k1 u1 u2 u3 u4 t0 t1 t2
def wba_Mo_cutLine_16 (mc ms : Nat) (Post : Ly → St → Int32 → Nat → Nat → Prop) (K_16 : Ly → St → Nat → Nat → Int32 → Int32 → Int32 → Prop) (a0 : Nat) (a1 : Nat) (k1 : Nat) (y_h16 : Ly) (s_h16 : St) (d_h16 e_h16 : Nat) (x3h16 : Int32) (x4h16 : Int32) (x5h16 : Int32) : Prop := (d_h16 ≤ mc ∧ e_h16 ≤ ms) ∧ ((x5h16 = 0 → wja_Mo_cutLine_383 mc ms Post a0 a1 k1 y_h16 s_h16 d_h16 e_h16 x3h16) ∧ (¬ (x5h16 = 0) → ((x3h16 ≤ x4h16 → wja_Mo_cutLine_383 mc ms Post a0 a1 k1 y_h16 s_h16 d_h16 e_h16 x3h16) ∧ (¬ (x3h16 ≤ x4h16) → xA y_h16 s_h16 a1 k1 x4h16 (fun x_5 : Int32 => ((x_5 = 35 → wja_Mo_cutLine_383 mc ms Post a0 a1 k1 y_h16 s_h16 d_h16 e_h16 x3h16) ∧ (¬ (x_5 = 35) → xA y_h16 s_h16 a1 k1 x4h16 (fun x_6 : Int32 => wu_Mo_isLetter y_h16 (fun (s_8 : St) (r_7 : Int32) => ((r_7 = 0 → wu_Mo_isDigit y_h16 (fun (s_10 : St) (r_9 : Int32) => ((¬ r_9 = 0 → wja_Mo_cutLine_176 mc ms Post K_16 a0 a1 k1 y_h16 s_10 d_h16 e_h16 x3h16 x4h16) ∧ (r_9 = 0 → ((¬ x_6 = 45 → wja_Mo_cutLine_211 mc ms Post K_16 a0 a1 k1 y_h16 s_10 d_h16 e_h16 x3h16 x4h16 x5h16 x_6 (x4h16 + 1)) ∧ (x_6 = 45 → ((x3h16 ≤ (x4h16 + 1) → wja_Mo_cutLine_211 mc ms Post K_16 a0 a1 k1 y_h16 s_10 d_h16 e_h16 x3h16 x4h16 x5h16 x_6 (x4h16 + 1)) ∧ (¬ (x3h16 ≤ (x4h16 + 1)) → xA y_h16 s_10 a1 k1 (x4h16 + 1) (fun x_26 : Int32 => wu_Mo_isDigit y_h16 (fun (s_28 : St) (r_27 : Int32) => ((r_27 = 0 → wja_Mo_cutLine_211 mc ms Post K_16 a0 a1 k1 y_h16 s_28 d_h16 e_h16 x3h16 x4h16 x5h16 x_6 (x4h16 + 1)) ∧ (¬ (r_27 = 0) → wja_Mo_cutLine_176 mc ms Post K_16 a0 a1 k1 y_h16 s_28 d_h16 e_h16 x3h16 x4h16))) s_10 x_26)))))))) s_8 x_6) ∧ (¬ (r_7 = 0) → wla_Mo_cutLine_56 mc ms Post K_16 a0 a1 k1 y_h16 s_8 d_h16 e_h16 x3h16 x4h16 (x4h16 + 1)))) s_h16 x_6))))))))
def wla_Mo_cutLine_16 (mc ms : Nat) (Post : Ly → St → Int32 → Nat → Nat → Prop) (a0 : Nat) (a1 : Nat) (k1 : Nat) (y_h16 : Ly) (s_h16 : St) (d_h16 e_h16 : Nat) (x3h16 : Int32) (x4h16 : Int32) (x5h16 : Int32) : Prop := ∃ (I : Ly → St → Nat → Nat → Int32 → Int32 → Int32 → Prop) (μ : Ly → St → Nat → Nat → Int32 → Int32 → Int32 → Nat), I y_h16 s_h16 d_h16 e_h16 x3h16 x4h16 x5h16 ∧ ∀ (u1 : Ly) (u2 : St) (u3 u4 : Nat) (t0 : Int32) (t1 : Int32) (t2 : Int32), I u1 u2 u3 u4 t0 t1 t2 → wba_Mo_cutLine_16 mc ms Post (fun z1 z2 z3 z4 t0q t1q t2q => I z1 z2 z3 z4 t0q t1q t2q ∧ μ z1 z2 z3 z4 t0q t1q t2q < μ u1 u2 u3 u4 t0 t1 t2) a0 a1 k1 u1 u2 u3 u4 t0 t1 t2
def wa_Mo_cutLine (mc ms : Nat) (y : Ly) (Post : Ly → St → Int32 → Nat → Nat → Prop) (σ : St) (a0 : Nat) (a1 : Nat) (k1 : Nat) (v2 : Int32) (v3 : Int32) : Prop := xP (uV σ a0 42 0) (fun s_1 : St => xP (uV s_1 a0 43 0) (fun s_2 : St => wla_Mo_cutLine_16 mc ms Post a0 a1 k1 y s_2 0 0 v3 v2 1))
set_option maxHeartbeats 4000000 in
set_option maxRecDepth 100000 in
theorem ca_Mo_cutLine (l : Launch) (D : va_G) (g : Nat → ClassId) (ad : Nat → Nat) (mc ms : Nat) (y : Ly) (Post : Ly → St → Int32 → Nat → Nat → Prop) (σ : St) (a0 : Nat) (a1 : Nat) (k1 : Nat) (v2 : Int32) (v3 : Int32) (sz uz : Nat) (h_a0 : cl a0 = 14) (h_a1 : kd (cl a1) k1 = 2 ∧ tyx (cl a1) k1 = 1) (h : wa_Mo_cutLine mc ms y Post σ a0 a1 k1 v2 v3) : Met l y_Mo_cutLine (mw y_Mo_cutLine b_Mo_cutLine 8 (some (.boolean))) (ra_Mo_cutLine mc ms) (PCu g D [] [.ref (ad a0), .ref (yP y a1 k1), .int v2, .int v3] sz uz (ws g ad y σ)) (va_Qi (fun (r : Int32) (u : Ly × St × Nat × Nat) => Post u.1 u.2.1 r u.2.2.1 u.2.2.2) (QU D (va_A (ws g ad y σ) sz) (fun u => ws g ad u.1 u.2.1) sz uz (fun u => u.2.2.1) (fun u => u.2.2.2)) (va_A (ws g ad y σ) sz)) mc ms (va_A (ws g ad y σ) sz) := by
  refine ofZu (by decide +kernel) (Nat.le_of_ble_eq_true rfl) ?_
  intro p e s m args below meth c A Q ls H locs G hsz hP hD hS hl hret
  subst hsz
  have hl : lv_has ls 8 [(0, .ref (ad a0)), (1, .ref (yP y a1 k1)), (2, .int v2), (3, .int v3)] := hl
  have hd : 0 ≤ mc ∧ 0 ≤ ms := ⟨Nat.zero_le _, Nat.zero_le _⟩
  unfold wa_Mo_cutLine at h
  refine lv_aload_n G.1 G.2.1 d_Mo_cutLine_0 rfl (lv_at hl 0 rfl) ?_
  refine lv_iconst (v := 0) G.1 G.2.1 d_Mo_cutLine_1 (by decide) ?_
  refine upf G hP hD hS h 42 putV h_a0 iMo tMo tMo_ok nMo rfl (by decide) rfl q3106 rfl rfl fV rfl rfl d_Mo_cutLine_2 (fun s_1 H locs h hP hD hS => ?_)
  refine lv_aload_n G.1 G.2.1 d_Mo_cutLine_5 rfl (lv_at hl 0 rfl) ?_
  refine lv_iconst (v := 0) G.1 G.2.1 d_Mo_cutLine_6 (by decide) ?_
  refine upf G hP hD hS h 43 putV h_a0 iMo tMo tMo_ok nMo rfl (by decide) rfl q3107 rfl rfl fV rfl rfl d_Mo_cutLine_7 (fun s_2 H locs h hP hD hS => ?_)
  refine lv_iload_n G.1 G.2.1 d_Mo_cutLine_10 rfl (lv_at hl 2 rfl) ?_
  refine lv_istore (lv' := [(4, .int v2), (0, .ref (ad a0)), (1, .ref (yP y a1 k1)), (2, .int v2), (3, .int v3)]) G.1 G.2.1 d_Mo_cutLine_11 hl (by decide) rfl (fun ls hl => ?_)
  refine lv_iconst (v := 1) G.1 G.2.1 d_Mo_cutLine_13 (by decide) ?_
  refine lv_istore (lv' := [(5, .int 1), (4, .int v2), (0, .ref (ad a0)), (1, .ref (yP y a1 k1)), (2, .int v2), (3, .int v3)]) G.1 G.2.1 d_Mo_cutLine_14 hl (by decide) rfl (fun ls hl => ?_)
  unfold wla_Mo_cutLine_16 at h
  obtain ⟨I_16, μ_16, hI_16, hB_16⟩ := h
  have L_16 : ∀ (n_16 : Nat) (y_h16 : Ly) (s_h16 : St) (d_h16 e_h16 : Nat) (x3h16 : Int32) (x4h16 : Int32) (x5h16 : Int32), μ_16 y_h16 s_h16 d_h16 e_h16 x3h16 x4h16 x5h16 < n_16 → I_16 y_h16 s_h16 d_h16 e_h16 x3h16 x4h16 x5h16 → ∀ (H : Heap) (locs : List Loc), va_P D CL (ws g ad y_h16 s_h16) H → va_D A (ws g ad y_h16 s_h16) → va_S A s.heap H locs → ∀ ls, lv_has ls 8 [(0, .ref (ad a0)), (1, .ref (yP y_h16 a1 k1)), (3, .int x3h16), (4, .int x4h16), (5, .int x5h16)] → W p l e (ra_Mo_cutLine mc ms) s m args below meth c H locs d_h16 e_h16 Q (F0 m 16 ls []) := by
    intro n_16
    induction n_16 with
    | zero => intro y_h16 s_h16 d_h16 e_h16 x3h16 x4h16 x5h16 hμ; exact absurd hμ (Nat.not_lt_zero _)
    | succ n_16 ih_16 =>
      intro y_h16 s_h16 d_h16 e_h16 x3h16 x4h16 x5h16 hμ_16 hJ H locs hP hD hS ls hl
      obtain ⟨K_16, hK_16, h⟩ : ∃ K : Ly → St → Nat → Nat → Int32 → Int32 → Int32 → Prop, (∀ z1 z2 z3 z4 (t0 : Int32) (t1 : Int32) (t2 : Int32), K z1 z2 z3 z4 t0 t1 t2 → I_16 z1 z2 z3 z4 t0 t1 t2 ∧ μ_16 z1 z2 z3 z4 t0 t1 t2 < μ_16 y_h16 s_h16 d_h16 e_h16 x3h16 x4h16 x5h16) ∧ wba_Mo_cutLine_16 mc ms Post K a0 a1 k1 y_h16 s_h16 d_h16 e_h16 x3h16 x4h16 x5h16 := ⟨_, fun _ _ _ _ _ _ _ h => h, hB_16 y_h16 s_h16 d_h16 e_h16 x3h16 x4h16 x5h16 hJ⟩
      unfold wba_Mo_cutLine_16 at h
      obtain ⟨hd, h⟩ := h
      refine lv_iload G.1 G.2.1 d_Mo_cutLine_16 (lv_at hl 4 rfl) ?_
      have J_383 : ∀ (y_j383 : Ly) (s_j383 : St) (d_j383 e_j383 : Nat) (x3j383 : Int32) (H : Heap) (locs : List Loc), wja_Mo_cutLine_383 mc ms Post a0 a1 k1 y_j383 s_j383 d_j383 e_j383 x3j383 → va_P D CL (ws g ad y_j383 s_j383) H → va_D A (ws g ad y_j383 s_j383) → va_S A s.heap H locs → ∀ ls, lv_has ls 8 [(0, .ref (ad a0)), (3, .int x3j383)] → W p l e (ra_Mo_cutLine mc ms) s m args below meth c H locs d_j383 e_j383 Q (F0 m 383 ls []) := by
        intro y_j383 s_j383 d_j383 e_j383 x3j383 H locs h hP hD hS ls hl
        unfold wja_Mo_cutLine_383 at h
        obtain ⟨hd, h⟩ := h
        refine lv_aload_n G.1 G.2.1 d_Mo_cutLine_383 rfl (lv_at hl 0 rfl) ?_
        refine ugf (v := .int (sV s_j383 a0 42)) G hP h_a0 iMo rfl 42 (by decide) rfl q3106 rfl rfl d_Mo_cutLine_384 ?_
        have J_395 : ∀ (y_j395 : Ly) (s_j395 : St) (d_j395 e_j395 : Nat) (x3j395 : Int32) (z0j395 : Int32) (H : Heap) (locs : List Loc), wja_Mo_cutLine_395 mc ms Post a0 a1 k1 y_j395 s_j395 d_j395 e_j395 x3j395 z0j395 → va_P D CL (ws g ad y_j395 s_j395) H → va_D A (ws g ad y_j395 s_j395) → va_S A s.heap H locs → ∀ ls, lv_has ls 8 [(0, .ref (ad a0)), (3, .int x3j395)] → W p l e (ra_Mo_cutLine mc ms) s m args below meth c H locs d_j395 e_j395 Q (F0 m 395 ls [.int z0j395]) := by
          intro y_j395 s_j395 d_j395 e_j395 x3j395 z0j395 H locs h hP hD hS ls hl
          unfold wja_Mo_cutLine_395 at h
          obtain ⟨hd, h⟩ := h
          refine lv_istore (lv' := [(6, .int z0j395), (0, .ref (ad a0)), (3, .int x3j395)]) G.1 G.2.1 d_Mo_cutLine_395 hl (by decide) rfl (fun ls hl => ?_)
          refine lv_aload_n G.1 G.2.1 d_Mo_cutLine_397 rfl (lv_at hl 1 rfl) ?_
          refine lv_iconst (v := 0) G.1 G.2.1 d_Mo_cutLine_398 (by decide) ?_
          refine lv_iconst (v := 0) G.1 G.2.1 d_Mo_cutLine_399 (by decide) ?_
          refine lv_iload_n G.1 G.2.1 d_Mo_cutLine_400 rfl (lv_at hl 2 rfl) ?_
          refine ucVv (As := [.int 0, .int 0, .int x3j395]) (rest := []) G hP hD hS (cu_Mo_addWord l D g ad y_j395 _ s_j395 a0 0 0 x3j395 H.size h_a0 h) w9_Mo_addWord q3504 ⟨Nat.le_of_ble_eq_true rfl, Nat.le_of_ble_eq_true rfl⟩ rfl rfl h_a0 (q := (RMo, TMo, 131)) rfl rfl hl.1 rfl (Nat.le_of_ble_eq_true rfl) rfl hd d_Mo_cutLine_401 (fun s_4 H locs h hP hD hS => ?_)
          refine lv_iload G.1 G.2.1 d_Mo_cutLine_404 (lv_at hl 0 rfl) ?_
          exact hret _ (y_j395, s_4, d_j395, e_j395) _ _ _ _ _ ls (nb_n h.1) h.2 hP hD hS (Nat.le_refl _) (Nat.le_refl _) hd.1 hd.2 d_Mo_cutLine_406
        refine lv_if_le (tgt := 394) G.1 G.2.1 d_Mo_cutLine_387 (by decide) (fun c387 => ?_) (fun c387 => ?_)
        · skip
          have h := h.1 c387
          refine lv_iconst (v := 0) G.1 G.2.1 d_Mo_cutLine_394 (by decide) ?_
          exact J_395 y_j383 s_j383 d_j383 e_j383 x3j383 0 H locs h hP hD hS ls (lv_sub hl [0, 1] rfl)
        · skip
          have h := h.2 c387
          refine lv_iconst (v := 1) G.1 G.2.1 d_Mo_cutLine_390 (by decide) ?_
          refine lv_goto (tgt := 395) G.1 G.2.1 d_Mo_cutLine_391 (by decide) ?_
          exact J_395 y_j383 s_j383 d_j383 e_j383 x3j383 1 H locs h hP hD hS ls (lv_sub hl [0, 1] rfl)
      refine lv_if_eq (tgt := 383) G.1 G.2.1 d_Mo_cutLine_18 (by decide) (fun c18 => ?_) (fun c18 => ?_)
      · skip
        have h := h.1 c18
        exact J_383 y_h16 s_h16 d_h16 e_h16 x3h16 H locs h hP hD hS ls (lv_sub hl [0, 2] rfl)
      · skip
        have h := h.2 c18
        refine lv_iload G.1 G.2.1 d_Mo_cutLine_21 (lv_at hl 3 rfl) ?_
        refine lv_iload_n G.1 G.2.1 d_Mo_cutLine_23 rfl (lv_at hl 2 rfl) ?_
        refine lv_icmp_ge (tgt := 383) G.1 G.2.1 d_Mo_cutLine_24 (by decide) (fun c24 => ?_) (fun c24 => ?_)
        · skip
          have h := h.1 c24
          exact J_383 y_h16 s_h16 d_h16 e_h16 x3h16 H locs h hP hD hS ls (lv_sub hl [0, 2] rfl)
        · skip
          have h := h.2 c24
          refine lv_aload_n G.1 G.2.1 d_Mo_cutLine_27 rfl (lv_at hl 1 rfl) ?_
          refine lv_iload G.1 G.2.1 d_Mo_cutLine_28 (lv_at hl 3 rfl) ?_
          refine ubald G hP h_a1.1 h_a1.2 h d_Mo_cutLine_30 (fun x_5 h => ?_)
          refine lv_bipush (v := 35) G.1 G.2.1 d_Mo_cutLine_31 (by decide) ?_
          refine lv_icmp_eq (tgt := 383) G.1 G.2.1 d_Mo_cutLine_33 (by decide) (fun c33 => ?_) (fun c33 => ?_)
          · skip
            have h := h.1 c33
            exact J_383 y_h16 s_h16 d_h16 e_h16 x3h16 H locs h hP hD hS ls (lv_sub hl [0, 2] rfl)
          · skip
            have h := h.2 c33
            refine lv_aload_n G.1 G.2.1 d_Mo_cutLine_36 rfl (lv_at hl 1 rfl) ?_
            refine W.eq (g2 := F0 m 37 ls [.ref (yP y_h16 a1 k1)]) rfl ?_
            refine lv_iload G.1 G.2.1 d_Mo_cutLine_37 (lv_at hl 3 rfl) ?_
            refine ubald G hP h_a1.1 h_a1.2 h d_Mo_cutLine_39 (fun x_6 h => ?_)
            refine lv_istore (lv' := [(6, .int x_6), (0, .ref (ad a0)), (1, .ref (yP y_h16 a1 k1)), (3, .int x3h16), (4, .int x4h16), (5, .int x5h16)]) G.1 G.2.1 d_Mo_cutLine_40 hl (by decide) rfl (fun ls hl => ?_)
            refine lv_iload G.1 G.2.1 d_Mo_cutLine_42 (lv_at hl 4 rfl) ?_
            refine lv_iconst (v := 1) G.1 G.2.1 d_Mo_cutLine_44 (by decide) ?_
            refine lv_iadd G.1 G.2.1 d_Mo_cutLine_45 ?_
            refine lv_istore (lv' := [(7, .int (x4h16 + 1)), (6, .int x_6), (0, .ref (ad a0)), (1, .ref (yP y_h16 a1 k1)), (3, .int x3h16), (4, .int x4h16), (5, .int x5h16)]) G.1 G.2.1 d_Mo_cutLine_46 hl (by decide) rfl (fun ls hl => ?_)
            refine lv_iload G.1 G.2.1 d_Mo_cutLine_48 (lv_at hl 1 rfl) ?_
            refine ucSi (As := [.int x_6]) (rest := []) G hP hD hS (cu_Mo_isLetter l D g ad y_h16 _ s_h16 x_6 H.size  h) w9_Mo_isLetter q3498 ⟨Nat.le_of_ble_eq_true rfl, Nat.le_of_ble_eq_true rfl⟩ rfl rfl hl.1 rfl (Nat.le_of_ble_eq_true rfl) rfl hd d_Mo_cutLine_50 (fun r_7 s_8 H locs h hP hD hS => ?_)
            have J_376 : ∀ (y_j376 : Ly) (s_j376 : St) (d_j376 e_j376 : Nat) (x3j376 : Int32) (x5j376 : Int32) (x7j376 : Int32) (H : Heap) (locs : List Loc), wja_Mo_cutLine_376 mc ms Post K_16 a0 a1 k1 y_j376 s_j376 d_j376 e_j376 x3j376 x5j376 x7j376 → va_P D CL (ws g ad y_j376 s_j376) H → va_D A (ws g ad y_j376 s_j376) → va_S A s.heap H locs → ∀ ls, lv_has ls 8 [(0, .ref (ad a0)), (1, .ref (yP y_j376 a1 k1)), (3, .int x3j376), (5, .int x5j376), (7, .int x7j376)] → W p l e (ra_Mo_cutLine mc ms) s m args below meth c H locs d_j376 e_j376 Q (F0 m 376 ls []) := by
              intro y_j376 s_j376 d_j376 e_j376 x3j376 x5j376 x7j376 H locs h hP hD hS ls hl
              unfold wja_Mo_cutLine_376 at h
              obtain ⟨hd, h⟩ := h
              refine lv_iload G.1 G.2.1 d_Mo_cutLine_376 (lv_at hl 4 rfl) ?_
              refine lv_istore (lv' := [(4, .int x7j376), (0, .ref (ad a0)), (1, .ref (yP y_j376 a1 k1)), (3, .int x3j376), (5, .int x5j376), (7, .int x7j376)]) G.1 G.2.1 d_Mo_cutLine_378 hl (by decide) rfl (fun ls hl => ?_)
              refine lv_goto (tgt := 16) G.1 G.2.1 d_Mo_cutLine_380 (by decide) ?_
              have h := hK_16 y_j376 s_j376 d_j376 e_j376 x3j376 x7j376 x5j376 h
              exact ih_16 y_j376 s_j376 d_j376 e_j376 x3j376 x7j376 x5j376 (Nat.lt_of_lt_of_le h.2 (Nat.le_of_lt_succ hμ_16)) h.1 H locs hP hD hS ls (lv_sub hl [1, 2, 3, 0, 4] rfl)
            refine lv_if_eq (tgt := 145) G.1 G.2.1 d_Mo_cutLine_53 (by decide) (fun c53 => ?_) (fun c53 => ?_)
            · skip
              have h := h.1 c53
              refine lv_iload G.1 G.2.1 d_Mo_cutLine_145 (lv_at hl 1 rfl) ?_
              refine ucSi (As := [.int x_6]) (rest := []) G hP hD hS (cu_Mo_isDigit l D g ad y_h16 _ s_8 x_6 H.size  h) w9_Mo_isDigit q3501 ⟨Nat.le_of_ble_eq_true rfl, Nat.le_of_ble_eq_true rfl⟩ rfl rfl hl.1 rfl (Nat.le_of_ble_eq_true rfl) rfl hd d_Mo_cutLine_147 (fun r_9 s_10 H locs h hP hD hS => ?_)
              have J_176 : ∀ (y_j176 : Ly) (s_j176 : St) (d_j176 e_j176 : Nat) (x3j176 : Int32) (x4j176 : Int32) (H : Heap) (locs : List Loc), wja_Mo_cutLine_176 mc ms Post K_16 a0 a1 k1 y_j176 s_j176 d_j176 e_j176 x3j176 x4j176 → va_P D CL (ws g ad y_j176 s_j176) H → va_D A (ws g ad y_j176 s_j176) → va_S A s.heap H locs → ∀ ls, lv_has ls 8 [(0, .ref (ad a0)), (1, .ref (yP y_j176 a1 k1)), (3, .int x3j176), (4, .int x4j176)] → W p l e (ra_Mo_cutLine mc ms) s m args below meth c H locs d_j176 e_j176 Q (F0 m 176 ls []) := by
                intro y_j176 s_j176 d_j176 e_j176 x3j176 x4j176 H locs h hP hD hS ls hl
                unfold wja_Mo_cutLine_176 at h
                obtain ⟨hd, h⟩ := h
                refine lv_aload_n G.1 G.2.1 d_Mo_cutLine_176 rfl (lv_at hl 0 rfl) ?_
                refine lv_aload_n G.1 G.2.1 d_Mo_cutLine_177 rfl (lv_at hl 1 rfl) ?_
                refine lv_iload G.1 G.2.1 d_Mo_cutLine_178 (lv_at hl 3 rfl) ?_
                refine lv_iload_n G.1 G.2.1 d_Mo_cutLine_180 rfl (lv_at hl 2 rfl) ?_
                refine ucVi (As := [.ref (yP y_j176 a1 k1), .int x4j176, .int x3j176]) (rest := []) G hP hD hS (cu_Mo_number l D g ad y_j176 _ s_j176 a0 a1 k1 x4j176 x3j176 H.size h_a0 ⟨h_a1.1, h_a1.2⟩ h) w9_Mo_number q3508 ⟨Nat.le_of_ble_eq_true rfl, Nat.le_of_ble_eq_true rfl⟩ rfl rfl h_a0 (q := (RMo, TMo, 131)) rfl rfl hl.1 rfl (Nat.le_of_ble_eq_true rfl) rfl hd d_Mo_cutLine_181 (fun r_11 s_12 H locs h hP hD hS => ?_)
                refine lv_istore (lv' := [(7, .int r_11), (0, .ref (ad a0)), (1, .ref (yP y_j176 a1 k1)), (3, .int x3j176), (4, .int x4j176)]) G.1 G.2.1 d_Mo_cutLine_184 hl (by decide) rfl (fun ls hl => ?_)
                refine lv_aload_n G.1 G.2.1 d_Mo_cutLine_186 rfl (lv_at hl 1 rfl) ?_
                refine ugf (v := .ref (yP y_j176 a0 39)) G hP h_a0 iMo rfl 39 (by decide) rfl q3103 rfl rfl d_Mo_cutLine_187 ?_
                refine lv_aload_n G.1 G.2.1 d_Mo_cutLine_190 rfl (lv_at hl 1 rfl) ?_
                refine ugf (v := .int (sV s_12 a0 42)) G hP h_a0 iMo rfl 42 (by decide) rfl q3106 rfl rfl d_Mo_cutLine_191 ?_
                refine lv_iconst (v := 1) G.1 G.2.1 d_Mo_cutLine_194 (by decide) ?_
                refine W.eq (g2 := F0 m 195 ls [.int 1, .int (sV s_12 a0 42), .ref (yP y_j176 a0 39)]) rfl ?_
                refine lv_isub G.1 G.2.1 d_Mo_cutLine_195 ?_
                refine ubald G hP (kdp h_a0 rfl) (typ h_a0 rfl) h d_Mo_cutLine_196 (fun x_13 h => ?_)
                refine lv_iconst (v := 1) G.1 G.2.1 d_Mo_cutLine_197 (by decide) ?_
                have J_206 : ∀ (y_j206 : Ly) (s_j206 : St) (d_j206 e_j206 : Nat) (x3j206 : Int32) (x7j206 : Int32) (z0j206 : Int32) (H : Heap) (locs : List Loc), wja_Mo_cutLine_206 mc ms Post K_16 a0 a1 k1 y_j206 s_j206 d_j206 e_j206 x3j206 x7j206 z0j206 → va_P D CL (ws g ad y_j206 s_j206) H → va_D A (ws g ad y_j206 s_j206) → va_S A s.heap H locs → ∀ ls, lv_has ls 8 [(0, .ref (ad a0)), (1, .ref (yP y_j206 a1 k1)), (3, .int x3j206), (7, .int x7j206)] → W p l e (ra_Mo_cutLine mc ms) s m args below meth c H locs d_j206 e_j206 Q (F0 m 206 ls [.int z0j206]) := by
                  intro y_j206 s_j206 d_j206 e_j206 x3j206 x7j206 z0j206 H locs h hP hD hS ls hl
                  unfold wja_Mo_cutLine_206 at h
                  obtain ⟨hd, h⟩ := h
                  refine lv_istore (lv' := [(5, .int z0j206), (0, .ref (ad a0)), (1, .ref (yP y_j206 a1 k1)), (3, .int x3j206), (7, .int x7j206)]) G.1 G.2.1 d_Mo_cutLine_206 hl (by decide) rfl (fun ls hl => ?_)
                  refine lv_goto (tgt := 376) G.1 G.2.1 d_Mo_cutLine_208 (by decide) ?_
                  exact J_376 y_j206 s_j206 d_j206 e_j206 x3j206 z0j206 x7j206 H locs h hP hD hS ls (lv_sub hl [1, 2, 3, 0, 4] rfl)
                refine lv_icmp_eq (tgt := 205) G.1 G.2.1 d_Mo_cutLine_198 (by decide) (fun c198 => ?_) (fun c198 => ?_)
                · skip
                  have h := h.1 c198
                  refine lv_iconst (v := 0) G.1 G.2.1 d_Mo_cutLine_205 (by decide) ?_
                  exact J_206 y_j176 s_12 d_j176 e_j176 x3j176 r_11 0 H locs h hP hD hS ls (lv_sub hl [1, 2, 3, 0] rfl)
                · skip
                  have h := h.2 c198
                  refine lv_iconst (v := 1) G.1 G.2.1 d_Mo_cutLine_201 (by decide) ?_
                  refine lv_goto (tgt := 206) G.1 G.2.1 d_Mo_cutLine_202 (by decide) ?_
                  exact J_206 y_j176 s_12 d_j176 e_j176 x3j176 r_11 1 H locs h hP hD hS ls (lv_sub hl [1, 2, 3, 0] rfl)
              refine W.eq (g2 := F0 m 150 ls [.int r_9]) rfl ?_
              refine lv_if_ne (tgt := 176) G.1 G.2.1 d_Mo_cutLine_150 (by decide) (fun c150 => ?_) (fun c150 => ?_)
              · skip
                have h := h.1 c150
                exact J_176 y_h16 s_10 d_h16 e_h16 x3h16 x4h16 H locs h hP hD hS ls (lv_sub hl [2, 3, 4, 5] rfl)
              · skip
                have h := h.2 c150
                refine lv_iload G.1 G.2.1 d_Mo_cutLine_153 (lv_at hl 1 rfl) ?_
                refine lv_bipush (v := 45) G.1 G.2.1 d_Mo_cutLine_155 (by decide) ?_
                have J_211 : ∀ (y_j211 : Ly) (s_j211 : St) (d_j211 e_j211 : Nat) (x3j211 : Int32) (x4j211 : Int32) (x5j211 : Int32) (x6j211 : Int32) (x7j211 : Int32) (H : Heap) (locs : List Loc), wja_Mo_cutLine_211 mc ms Post K_16 a0 a1 k1 y_j211 s_j211 d_j211 e_j211 x3j211 x4j211 x5j211 x6j211 x7j211 → va_P D CL (ws g ad y_j211 s_j211) H → va_D A (ws g ad y_j211 s_j211) → va_S A s.heap H locs → ∀ ls, lv_has ls 8 [(0, .ref (ad a0)), (1, .ref (yP y_j211 a1 k1)), (3, .int x3j211), (4, .int x4j211), (5, .int x5j211), (6, .int x6j211), (7, .int x7j211)] → W p l e (ra_Mo_cutLine mc ms) s m args below meth c H locs d_j211 e_j211 Q (F0 m 211 ls []) := by
                  intro y_j211 s_j211 d_j211 e_j211 x3j211 x4j211 x5j211 x6j211 x7j211 H locs h hP hD hS ls hl
                  unfold wja_Mo_cutLine_211 at h
                  obtain ⟨hd, h⟩ := h
                  refine lv_iload G.1 G.2.1 d_Mo_cutLine_211 (lv_at hl 5 rfl) ?_
                  refine lv_bipush (v := 58) G.1 G.2.1 d_Mo_cutLine_213 (by decide) ?_
                  have J_260 : ∀ (y_j260 : Ly) (s_j260 : St) (d_j260 e_j260 : Nat) (x3j260 : Int32) (x4j260 : Int32) (x5j260 : Int32) (x6j260 : Int32) (x7j260 : Int32) (H : Heap) (locs : List Loc), wja_Mo_cutLine_260 mc ms Post K_16 a0 a1 k1 y_j260 s_j260 d_j260 e_j260 x3j260 x4j260 x5j260 x6j260 x7j260 → va_P D CL (ws g ad y_j260 s_j260) H → va_D A (ws g ad y_j260 s_j260) → va_S A s.heap H locs → ∀ ls, lv_has ls 8 [(0, .ref (ad a0)), (1, .ref (yP y_j260 a1 k1)), (3, .int x3j260), (4, .int x4j260), (5, .int x5j260), (6, .int x6j260), (7, .int x7j260)] → W p l e (ra_Mo_cutLine mc ms) s m args below meth c H locs d_j260 e_j260 Q (F0 m 260 ls []) := by
                    intro y_j260 s_j260 d_j260 e_j260 x3j260 x4j260 x5j260 x6j260 x7j260 H locs h hP hD hS ls hl
                    unfold wja_Mo_cutLine_260 at h
                    obtain ⟨hd, h⟩ := h
                    refine lv_aload_n G.1 G.2.1 d_Mo_cutLine_260 rfl (lv_at hl 0 rfl) ?_
                    refine lv_iload G.1 G.2.1 d_Mo_cutLine_261 (lv_at hl 5 rfl) ?_
                    refine lv_iconst (v := 0) G.1 G.2.1 d_Mo_cutLine_263 (by decide) ?_
                    refine lv_iload G.1 G.2.1 d_Mo_cutLine_264 (lv_at hl 3 rfl) ?_
                    refine ucVv (As := [.int x6j260, .int 0, .int x4j260]) (rest := []) G hP hD hS (cu_Mo_addWord l D g ad y_j260 _ s_j260 a0 x6j260 0 x4j260 H.size h_a0 h) w9_Mo_addWord q3504 ⟨Nat.le_of_ble_eq_true rfl, Nat.le_of_ble_eq_true rfl⟩ rfl rfl h_a0 (q := (RMo, TMo, 131)) rfl rfl hl.1 rfl (Nat.le_of_ble_eq_true rfl) rfl hd d_Mo_cutLine_266 (fun s_15 H locs h hP hD hS => ?_)
                    refine lv_goto (tgt := 376) G.1 G.2.1 d_Mo_cutLine_269 (by decide) ?_
                    exact J_376 y_j260 s_15 d_j260 e_j260 x3j260 x5j260 x7j260 H locs h hP hD hS ls (lv_sub hl [0, 1, 2, 4, 6] rfl)
                  refine lv_icmp_eq (tgt := 260) G.1 G.2.1 d_Mo_cutLine_215 (by decide) (fun c215 => ?_) (fun c215 => ?_)
                  · skip
                    have h := h.1 c215
                    exact J_260 y_j211 s_j211 d_j211 e_j211 x3j211 x4j211 x5j211 x6j211 x7j211 H locs h hP hD hS ls (lv_sub hl [0, 1, 2, 3, 4, 5, 6] rfl)
                  · skip
                    have h := h.2 c215
                    refine lv_iload G.1 G.2.1 d_Mo_cutLine_218 (lv_at hl 5 rfl) ?_
                    refine lv_bipush (v := 44) G.1 G.2.1 d_Mo_cutLine_220 (by decide) ?_
                    refine lv_icmp_eq (tgt := 260) G.1 G.2.1 d_Mo_cutLine_222 (by decide) (fun c222 => ?_) (fun c222 => ?_)
                    · skip
                      have h := h.1 c222
                      exact J_260 y_j211 s_j211 d_j211 e_j211 x3j211 x4j211 x5j211 x6j211 x7j211 H locs h hP hD hS ls (lv_sub hl [0, 1, 2, 3, 4, 5, 6] rfl)
                    · skip
                      have h := h.2 c222
                      refine lv_iload G.1 G.2.1 d_Mo_cutLine_225 (lv_at hl 5 rfl) ?_
                      refine lv_bipush (v := 59) G.1 G.2.1 d_Mo_cutLine_227 (by decide) ?_
                      refine lv_icmp_eq (tgt := 260) G.1 G.2.1 d_Mo_cutLine_229 (by decide) (fun c229 => ?_) (fun c229 => ?_)
                      · skip
                        have h := h.1 c229
                        exact J_260 y_j211 s_j211 d_j211 e_j211 x3j211 x4j211 x5j211 x6j211 x7j211 H locs h hP hD hS ls (lv_sub hl [0, 1, 2, 3, 4, 5, 6] rfl)
                      · skip
                        have h := h.2 c229
                        refine lv_iload G.1 G.2.1 d_Mo_cutLine_232 (lv_at hl 5 rfl) ?_
                        refine lv_bipush (v := 40) G.1 G.2.1 d_Mo_cutLine_234 (by decide) ?_
                        refine W.eq (g2 := F0 m 236 ls [.int 40, .int x6j211]) rfl ?_
                        refine lv_icmp_eq (tgt := 260) G.1 G.2.1 d_Mo_cutLine_236 (by decide) (fun c236 => ?_) (fun c236 => ?_)
                        · skip
                          have h := h.1 c236
                          exact J_260 y_j211 s_j211 d_j211 e_j211 x3j211 x4j211 x5j211 x6j211 x7j211 H locs h hP hD hS ls (lv_sub hl [0, 1, 2, 3, 4, 5, 6] rfl)
                        · skip
                          have h := h.2 c236
                          refine lv_iload G.1 G.2.1 d_Mo_cutLine_239 (lv_at hl 5 rfl) ?_
                          refine lv_bipush (v := 41) G.1 G.2.1 d_Mo_cutLine_241 (by decide) ?_
                          refine lv_icmp_eq (tgt := 260) G.1 G.2.1 d_Mo_cutLine_243 (by decide) (fun c243 => ?_) (fun c243 => ?_)
                          · skip
                            have h := h.1 c243
                            exact J_260 y_j211 s_j211 d_j211 e_j211 x3j211 x4j211 x5j211 x6j211 x7j211 H locs h hP hD hS ls (lv_sub hl [0, 1, 2, 3, 4, 5, 6] rfl)
                          · skip
                            have h := h.2 c243
                            refine lv_iload G.1 G.2.1 d_Mo_cutLine_246 (lv_at hl 5 rfl) ?_
                            refine lv_bipush (v := 46) G.1 G.2.1 d_Mo_cutLine_248 (by decide) ?_
                            refine lv_icmp_eq (tgt := 260) G.1 G.2.1 d_Mo_cutLine_250 (by decide) (fun c250 => ?_) (fun c250 => ?_)
                            · skip
                              have h := h.1 c250
                              exact J_260 y_j211 s_j211 d_j211 e_j211 x3j211 x4j211 x5j211 x6j211 x7j211 H locs h hP hD hS ls (lv_sub hl [0, 1, 2, 3, 4, 5, 6] rfl)
                            · skip
                              have h := h.2 c250
                              refine lv_iload G.1 G.2.1 d_Mo_cutLine_253 (lv_at hl 5 rfl) ?_
                              refine lv_bipush (v := 61) G.1 G.2.1 d_Mo_cutLine_255 (by decide) ?_
                              refine lv_icmp_ne (tgt := 272) G.1 G.2.1 d_Mo_cutLine_257 (by decide) (fun c257 => ?_) (fun c257 => ?_)
                              · skip
                                have h := h.1 c257
                                refine lv_iload G.1 G.2.1 d_Mo_cutLine_272 (lv_at hl 5 rfl) ?_
                                refine lv_bipush (v := 60) G.1 G.2.1 d_Mo_cutLine_274 (by decide) ?_
                                have J_315 : ∀ (y_j315 : Ly) (s_j315 : St) (d_j315 e_j315 : Nat) (x3j315 : Int32) (x4j315 : Int32) (x5j315 : Int32) (x6j315 : Int32) (x7j315 : Int32) (H : Heap) (locs : List Loc), wja_Mo_cutLine_315 mc ms Post K_16 a0 a1 k1 y_j315 s_j315 d_j315 e_j315 x3j315 x4j315 x5j315 x6j315 x7j315 → va_P D CL (ws g ad y_j315 s_j315) H → va_D A (ws g ad y_j315 s_j315) → va_S A s.heap H locs → ∀ ls, lv_has ls 8 [(0, .ref (ad a0)), (1, .ref (yP y_j315 a1 k1)), (3, .int x3j315), (4, .int x4j315), (5, .int x5j315), (6, .int x6j315), (7, .int x7j315)] → W p l e (ra_Mo_cutLine mc ms) s m args below meth c H locs d_j315 e_j315 Q (F0 m 315 ls []) := by
                                  intro y_j315 s_j315 d_j315 e_j315 x3j315 x4j315 x5j315 x6j315 x7j315 H locs h hP hD hS ls hl
                                  unfold wja_Mo_cutLine_315 at h
                                  obtain ⟨hd, h⟩ := h
                                  refine lv_iload G.1 G.2.1 d_Mo_cutLine_315 (lv_at hl 5 rfl) ?_
                                  refine lv_bipush (v := 60) G.1 G.2.1 d_Mo_cutLine_317 (by decide) ?_
                                  have J_358 : ∀ (y_j358 : Ly) (s_j358 : St) (d_j358 e_j358 : Nat) (x3j358 : Int32) (x4j358 : Int32) (x5j358 : Int32) (x6j358 : Int32) (x7j358 : Int32) (H : Heap) (locs : List Loc), wja_Mo_cutLine_358 mc ms Post K_16 a0 a1 k1 y_j358 s_j358 d_j358 e_j358 x3j358 x4j358 x5j358 x6j358 x7j358 → va_P D CL (ws g ad y_j358 s_j358) H → va_D A (ws g ad y_j358 s_j358) → va_S A s.heap H locs → ∀ ls, lv_has ls 8 [(0, .ref (ad a0)), (1, .ref (yP y_j358 a1 k1)), (3, .int x3j358), (4, .int x4j358), (5, .int x5j358), (6, .int x6j358), (7, .int x7j358)] → W p l e (ra_Mo_cutLine mc ms) s m args below meth c H locs d_j358 e_j358 Q (F0 m 358 ls []) := by
                                    intro y_j358 s_j358 d_j358 e_j358 x3j358 x4j358 x5j358 x6j358 x7j358 H locs h hP hD hS ls hl
                                    unfold wja_Mo_cutLine_358 at h
                                    obtain ⟨hd, h⟩ := h
                                    refine lv_iload G.1 G.2.1 d_Mo_cutLine_358 (lv_at hl 5 rfl) ?_
                                    refine lv_bipush (v := 32) G.1 G.2.1 d_Mo_cutLine_360 (by decide) ?_
                                    refine lv_icmp_eq (tgt := 376) G.1 G.2.1 d_Mo_cutLine_362 (by decide) (fun c362 => ?_) (fun c362 => ?_)
                                    · skip
                                      have h := h.1 c362
                                      exact J_376 y_j358 s_j358 d_j358 e_j358 x3j358 x5j358 x7j358 H locs h hP hD hS ls (lv_sub hl [0, 1, 2, 4, 6] rfl)
                                    · skip
                                      have h := h.2 c362
                                      refine lv_aload_n G.1 G.2.1 d_Mo_cutLine_365 rfl (lv_at hl 0 rfl) ?_
                                      refine lv_iconst (v := 1) G.1 G.2.1 d_Mo_cutLine_366 (by decide) ?_
                                      refine lv_iconst (v := 0) G.1 G.2.1 d_Mo_cutLine_367 (by decide) ?_
                                      refine lv_iload G.1 G.2.1 d_Mo_cutLine_368 (lv_at hl 3 rfl) ?_
                                      refine ucVv (As := [.int 1, .int 0, .int x4j358]) (rest := []) G hP hD hS (cu_Mo_addWord l D g ad y_j358 _ s_j358 a0 1 0 x4j358 H.size h_a0 h) w9_Mo_addWord q3504 ⟨Nat.le_of_ble_eq_true rfl, Nat.le_of_ble_eq_true rfl⟩ rfl rfl h_a0 (q := (RMo, TMo, 131)) rfl rfl hl.1 rfl (Nat.le_of_ble_eq_true rfl) rfl hd d_Mo_cutLine_370 (fun s_17 H locs h hP hD hS => ?_)
                                      refine lv_iconst (v := 0) G.1 G.2.1 d_Mo_cutLine_373 (by decide) ?_
                                      refine lv_istore (lv' := [(5, .int 0), (0, .ref (ad a0)), (1, .ref (yP y_j358 a1 k1)), (3, .int x3j358), (4, .int x4j358), (6, .int x6j358), (7, .int x7j358)]) G.1 G.2.1 d_Mo_cutLine_374 hl (by decide) rfl (fun ls hl => ?_)
                                      exact J_376 y_j358 s_17 d_j358 e_j358 x3j358 0 x7j358 H locs h hP hD hS ls (lv_sub hl [1, 2, 3, 0, 6] rfl)
                                  refine lv_icmp_ne (tgt := 358) G.1 G.2.1 d_Mo_cutLine_319 (by decide) (fun c319 => ?_) (fun c319 => ?_)
                                  · skip
                                    have h := h.1 c319
                                    exact J_358 y_j315 s_j315 d_j315 e_j315 x3j315 x4j315 x5j315 x6j315 x7j315 H locs h hP hD hS ls (lv_sub hl [0, 1, 2, 3, 4, 5, 6] rfl)
                                  · skip
                                    have h := h.2 c319
                                    refine lv_aload_n G.1 G.2.1 d_Mo_cutLine_322 rfl (lv_at hl 0 rfl) ?_
                                    refine lv_aload_n G.1 G.2.1 d_Mo_cutLine_323 rfl (lv_at hl 0 rfl) ?_
                                    refine ugf (v := .int (sV s_j315 a0 7)) G hP h_a0 iMo rfl 7 (by decide) rfl q3071 rfl rfl d_Mo_cutLine_324 ?_
                                    refine lv_aload_n G.1 G.2.1 d_Mo_cutLine_327 rfl (lv_at hl 1 rfl) ?_
                                    refine lv_iload G.1 G.2.1 d_Mo_cutLine_328 (lv_at hl 3 rfl) ?_
                                    refine lv_iload_n G.1 G.2.1 d_Mo_cutLine_330 rfl (lv_at hl 2 rfl) ?_
                                    refine ucVi (As := [.int (sV s_j315 a0 7), .ref (yP y_j315 a1 k1), .int x4j315, .int x3j315]) (rest := []) G hP hD hS (cu_Mo_isTag l D g ad y_j315 _ s_j315 a0 (sV s_j315 a0 7) a1 k1 x4j315 x3j315 H.size h_a0 ⟨h_a1.1, h_a1.2⟩ h) w9_Mo_isTag q3514 ⟨Nat.le_of_ble_eq_true rfl, Nat.le_of_ble_eq_true rfl⟩ rfl rfl h_a0 (q := (RMo, TMo, 131)) rfl rfl hl.1 rfl (Nat.le_of_ble_eq_true rfl) rfl hd d_Mo_cutLine_331 (fun r_18 s_19 H locs h hP hD hS => ?_)
                                    refine lv_if_eq (tgt := 358) G.1 G.2.1 d_Mo_cutLine_334 (by decide) (fun c334 => ?_) (fun c334 => ?_)
                                    · skip
                                      have h := h.1 c334
                                      exact J_358 y_j315 s_19 d_j315 e_j315 x3j315 x4j315 x5j315 x6j315 x7j315 H locs h hP hD hS ls (lv_sub hl [0, 1, 2, 3, 4, 5, 6] rfl)
                                    · skip
                                      have h := h.2 c334
                                      refine W.eq (g2 := F0 m 337 ls []) rfl ?_
                                      refine lv_aload_n G.1 G.2.1 d_Mo_cutLine_337 rfl (lv_at hl 0 rfl) ?_
                                      refine lv_iconst (v := 3) G.1 G.2.1 d_Mo_cutLine_338 (by decide) ?_
                                      refine lv_aload_n G.1 G.2.1 d_Mo_cutLine_339 rfl (lv_at hl 0 rfl) ?_
                                      refine ugf (v := .int (sV s_19 a0 7)) G hP h_a0 iMo rfl 7 (by decide) rfl q3071 rfl rfl d_Mo_cutLine_340 ?_
                                      refine lv_iload G.1 G.2.1 d_Mo_cutLine_343 (lv_at hl 3 rfl) ?_
                                      refine ucVv (As := [.int 3, .int (sV s_19 a0 7), .int x4j315]) (rest := []) G hP hD hS (cu_Mo_addWord l D g ad y_j315 _ s_19 a0 3 (sV s_19 a0 7) x4j315 H.size h_a0 h) w9_Mo_addWord q3504 ⟨Nat.le_of_ble_eq_true rfl, Nat.le_of_ble_eq_true rfl⟩ rfl rfl h_a0 (q := (RMo, TMo, 131)) rfl rfl hl.1 rfl (Nat.le_of_ble_eq_true rfl) rfl hd d_Mo_cutLine_345 (fun s_21 H locs h hP hD hS => ?_)
                                      refine lv_iload G.1 G.2.1 d_Mo_cutLine_348 (lv_at hl 3 rfl) ?_
                                      refine lv_bipush (v := 7) G.1 G.2.1 d_Mo_cutLine_350 (by decide) ?_
                                      refine lv_iadd G.1 G.2.1 d_Mo_cutLine_352 ?_
                                      refine lv_istore (lv' := [(7, .int (x4j315 + 7)), (0, .ref (ad a0)), (1, .ref (yP y_j315 a1 k1)), (3, .int x3j315), (4, .int x4j315), (5, .int x5j315), (6, .int x6j315)]) G.1 G.2.1 d_Mo_cutLine_353 hl (by decide) rfl (fun ls hl => ?_)
                                      refine lv_goto (tgt := 376) G.1 G.2.1 d_Mo_cutLine_355 (by decide) ?_
                                      exact J_376 y_j315 s_21 d_j315 e_j315 x3j315 x5j315 (x4j315 + 7) H locs h hP hD hS ls (lv_sub hl [1, 2, 3, 5, 0] rfl)
                                refine W.eq (g2 := F0 m 276 ls [.int 60, .int x6j211]) rfl ?_
                                refine lv_icmp_ne (tgt := 315) G.1 G.2.1 d_Mo_cutLine_276 (by decide) (fun c276 => ?_) (fun c276 => ?_)
                                · skip
                                  have h := h.1 c276
                                  exact J_315 y_j211 s_j211 d_j211 e_j211 x3j211 x4j211 x5j211 x6j211 x7j211 H locs h hP hD hS ls (lv_sub hl [0, 1, 2, 3, 4, 5, 6] rfl)
                                · skip
                                  have h := h.2 c276
                                  refine lv_aload_n G.1 G.2.1 d_Mo_cutLine_279 rfl (lv_at hl 0 rfl) ?_
                                  refine lv_aload_n G.1 G.2.1 d_Mo_cutLine_280 rfl (lv_at hl 0 rfl) ?_
                                  refine ugf (v := .int (sV s_j211 a0 6)) G hP h_a0 iMo rfl 6 (by decide) rfl q3070 rfl rfl d_Mo_cutLine_281 ?_
                                  refine lv_aload_n G.1 G.2.1 d_Mo_cutLine_284 rfl (lv_at hl 1 rfl) ?_
                                  refine lv_iload G.1 G.2.1 d_Mo_cutLine_285 (lv_at hl 3 rfl) ?_
                                  refine lv_iload_n G.1 G.2.1 d_Mo_cutLine_287 rfl (lv_at hl 2 rfl) ?_
                                  refine ucVi (As := [.int (sV s_j211 a0 6), .ref (yP y_j211 a1 k1), .int x4j211, .int x3j211]) (rest := []) G hP hD hS (cu_Mo_isTag l D g ad y_j211 _ s_j211 a0 (sV s_j211 a0 6) a1 k1 x4j211 x3j211 H.size h_a0 ⟨h_a1.1, h_a1.2⟩ h) w9_Mo_isTag q3514 ⟨Nat.le_of_ble_eq_true rfl, Nat.le_of_ble_eq_true rfl⟩ rfl rfl h_a0 (q := (RMo, TMo, 131)) rfl rfl hl.1 rfl (Nat.le_of_ble_eq_true rfl) rfl hd d_Mo_cutLine_288 (fun r_22 s_23 H locs h hP hD hS => ?_)
                                  refine lv_if_eq (tgt := 315) G.1 G.2.1 d_Mo_cutLine_291 (by decide) (fun c291 => ?_) (fun c291 => ?_)
                                  · skip
                                    have h := h.1 c291
                                    exact J_315 y_j211 s_23 d_j211 e_j211 x3j211 x4j211 x5j211 x6j211 x7j211 H locs h hP hD hS ls (lv_sub hl [0, 1, 2, 3, 4, 5, 6] rfl)
                                  · skip
                                    have h := h.2 c291
                                    refine lv_aload_n G.1 G.2.1 d_Mo_cutLine_294 rfl (lv_at hl 0 rfl) ?_
                                    refine lv_iconst (v := 3) G.1 G.2.1 d_Mo_cutLine_295 (by decide) ?_
                                    refine lv_aload_n G.1 G.2.1 d_Mo_cutLine_296 rfl (lv_at hl 0 rfl) ?_
                                    refine W.eq (g2 := F0 m 297 ls [.ref (ad a0), .int 3, .ref (ad a0)]) rfl ?_
                                    refine ugf (v := .int (sV s_23 a0 6)) G hP h_a0 iMo rfl 6 (by decide) rfl q3070 rfl rfl d_Mo_cutLine_297 ?_
                                    refine lv_iload G.1 G.2.1 d_Mo_cutLine_300 (lv_at hl 3 rfl) ?_
                                    refine ucVv (As := [.int 3, .int (sV s_23 a0 6), .int x4j211]) (rest := []) G hP hD hS (cu_Mo_addWord l D g ad y_j211 _ s_23 a0 3 (sV s_23 a0 6) x4j211 H.size h_a0 h) w9_Mo_addWord q3504 ⟨Nat.le_of_ble_eq_true rfl, Nat.le_of_ble_eq_true rfl⟩ rfl rfl h_a0 (q := (RMo, TMo, 131)) rfl rfl hl.1 rfl (Nat.le_of_ble_eq_true rfl) rfl hd d_Mo_cutLine_302 (fun s_25 H locs h hP hD hS => ?_)
                                    refine lv_iload G.1 G.2.1 d_Mo_cutLine_305 (lv_at hl 3 rfl) ?_
                                    refine lv_bipush (v := 6) G.1 G.2.1 d_Mo_cutLine_307 (by decide) ?_
                                    refine lv_iadd G.1 G.2.1 d_Mo_cutLine_309 ?_
                                    refine lv_istore (lv' := [(7, .int (x4j211 + 6)), (0, .ref (ad a0)), (1, .ref (yP y_j211 a1 k1)), (3, .int x3j211), (4, .int x4j211), (5, .int x5j211), (6, .int x6j211)]) G.1 G.2.1 d_Mo_cutLine_310 hl (by decide) rfl (fun ls hl => ?_)
                                    refine lv_goto (tgt := 376) G.1 G.2.1 d_Mo_cutLine_312 (by decide) ?_
                                    exact J_376 y_j211 s_25 d_j211 e_j211 x3j211 x5j211 (x4j211 + 6) H locs h hP hD hS ls (lv_sub hl [1, 2, 3, 5, 0] rfl)
                              · skip
                                have h := h.2 c257
                                exact J_260 y_j211 s_j211 d_j211 e_j211 x3j211 x4j211 x5j211 x6j211 x7j211 H locs h hP hD hS ls (lv_sub hl [0, 1, 2, 3, 4, 5, 6] rfl)
                refine lv_icmp_ne (tgt := 211) G.1 G.2.1 d_Mo_cutLine_157 (by decide) (fun c157 => ?_) (fun c157 => ?_)
                · skip
                  have h := h.1 c157
                  exact J_211 y_h16 s_10 d_h16 e_h16 x3h16 x4h16 x5h16 x_6 (x4h16 + 1) H locs h hP hD hS ls (lv_sub hl [2, 3, 4, 5, 6, 1, 0] rfl)
                · skip
                  have h := h.2 c157
                  refine lv_iload G.1 G.2.1 d_Mo_cutLine_160 (lv_at hl 0 rfl) ?_
                  refine lv_iload_n G.1 G.2.1 d_Mo_cutLine_162 rfl (lv_at hl 4 rfl) ?_
                  refine lv_icmp_ge (tgt := 211) G.1 G.2.1 d_Mo_cutLine_163 (by decide) (fun c163 => ?_) (fun c163 => ?_)
                  · skip
                    have h := h.1 c163
                    exact J_211 y_h16 s_10 d_h16 e_h16 x3h16 x4h16 x5h16 x_6 (x4h16 + 1) H locs h hP hD hS ls (lv_sub hl [2, 3, 4, 5, 6, 1, 0] rfl)
                  · skip
                    have h := h.2 c163
                    refine lv_aload_n G.1 G.2.1 d_Mo_cutLine_166 rfl (lv_at hl 3 rfl) ?_
                    refine lv_iload G.1 G.2.1 d_Mo_cutLine_167 (lv_at hl 0 rfl) ?_
                    refine ubald G hP h_a1.1 h_a1.2 h d_Mo_cutLine_169 (fun x_26 h => ?_)
                    refine ucSi (As := [.int x_26]) (rest := []) G hP hD hS (cu_Mo_isDigit l D g ad y_h16 _ s_10 x_26 H.size  h) w9_Mo_isDigit q3501 ⟨Nat.le_of_ble_eq_true rfl, Nat.le_of_ble_eq_true rfl⟩ rfl rfl hl.1 rfl (Nat.le_of_ble_eq_true rfl) rfl hd d_Mo_cutLine_170 (fun r_27 s_28 H locs h hP hD hS => ?_)
                    refine lv_if_eq (tgt := 211) G.1 G.2.1 d_Mo_cutLine_173 (by decide) (fun c173 => ?_) (fun c173 => ?_)
                    · skip
                      have h := h.1 c173
                      exact J_211 y_h16 s_28 d_h16 e_h16 x3h16 x4h16 x5h16 x_6 (x4h16 + 1) H locs h hP hD hS ls (lv_sub hl [2, 3, 4, 5, 6, 1, 0] rfl)
                    · skip
                      have h := h.2 c173
                      exact J_176 y_h16 s_28 d_h16 e_h16 x3h16 x4h16 H locs h hP hD hS ls (lv_sub hl [2, 3, 4, 5] rfl)
            · skip
              have h := h.2 c53
              unfold wla_Mo_cutLine_56 at h
              obtain ⟨I_56, μ_56, hI_56, hB_56⟩ := h
              have L_56 : ∀ (n_56 : Nat) (y_h56 : Ly) (s_h56 : St) (d_h56 e_h56 : Nat) (x3h56 : Int32) (x4h56 : Int32) (x7h56 : Int32), μ_56 y_h56 s_h56 d_h56 e_h56 x3h56 x4h56 x7h56 < n_56 → I_56 y_h56 s_h56 d_h56 e_h56 x3h56 x4h56 x7h56 → ∀ (H : Heap) (locs : List Loc), va_P D CL (ws g ad y_h56 s_h56) H → va_D A (ws g ad y_h56 s_h56) → va_S A s.heap H locs → ∀ ls, lv_has ls 8 [(0, .ref (ad a0)), (1, .ref (yP y_h56 a1 k1)), (3, .int x3h56), (4, .int x4h56), (7, .int x7h56)] → W p l e (ra_Mo_cutLine mc ms) s m args below meth c H locs d_h56 e_h56 Q (F0 m 56 ls []) := by
                intro n_56
                induction n_56 with
                | zero => intro y_h56 s_h56 d_h56 e_h56 x3h56 x4h56 x7h56 hμ; exact absurd hμ (Nat.not_lt_zero _)
                | succ n_56 ih_56 =>
                  intro y_h56 s_h56 d_h56 e_h56 x3h56 x4h56 x7h56 hμ_56 hJ H locs hP hD hS ls hl
                  obtain ⟨K_56, hK_56, h⟩ : ∃ K : Ly → St → Nat → Nat → Int32 → Int32 → Int32 → Prop, (∀ z1 z2 z3 z4 (t0 : Int32) (t1 : Int32) (t2 : Int32), K z1 z2 z3 z4 t0 t1 t2 → I_56 z1 z2 z3 z4 t0 t1 t2 ∧ μ_56 z1 z2 z3 z4 t0 t1 t2 < μ_56 y_h56 s_h56 d_h56 e_h56 x3h56 x4h56 x7h56) ∧ wba_Mo_cutLine_56 mc ms Post K_16 K a0 a1 k1 y_h56 s_h56 d_h56 e_h56 x3h56 x4h56 x7h56 := ⟨_, fun _ _ _ _ _ _ _ h => h, hB_56 y_h56 s_h56 d_h56 e_h56 x3h56 x4h56 x7h56 hJ⟩
                  unfold wba_Mo_cutLine_56 at h
                  obtain ⟨hd, h⟩ := h
                  refine lv_iload G.1 G.2.1 d_Mo_cutLine_56 (lv_at hl 4 rfl) ?_
                  refine lv_iload_n G.1 G.2.1 d_Mo_cutLine_58 rfl (lv_at hl 2 rfl) ?_
                  have J_88 : ∀ (y_j88 : Ly) (s_j88 : St) (d_j88 e_j88 : Nat) (x3j88 : Int32) (x4j88 : Int32) (x7j88 : Int32) (H : Heap) (locs : List Loc), wja_Mo_cutLine_88 mc ms Post K_16 a0 a1 k1 y_j88 s_j88 d_j88 e_j88 x3j88 x4j88 x7j88 → va_P D CL (ws g ad y_j88 s_j88) H → va_D A (ws g ad y_j88 s_j88) → va_S A s.heap H locs → ∀ ls, lv_has ls 8 [(0, .ref (ad a0)), (1, .ref (yP y_j88 a1 k1)), (3, .int x3j88), (4, .int x4j88), (7, .int x7j88)] → W p l e (ra_Mo_cutLine mc ms) s m args below meth c H locs d_j88 e_j88 Q (F0 m 88 ls []) := by
                    intro y_j88 s_j88 d_j88 e_j88 x3j88 x4j88 x7j88 H locs h hP hD hS ls hl
                    unfold wja_Mo_cutLine_88 at h
                    obtain ⟨hd, h⟩ := h
                    refine lv_iload G.1 G.2.1 d_Mo_cutLine_88 (lv_at hl 4 rfl) ?_
                    refine lv_iload G.1 G.2.1 d_Mo_cutLine_90 (lv_at hl 3 rfl) ?_
                    refine lv_isub G.1 G.2.1 d_Mo_cutLine_92 ?_
                    refine lv_bipush (v := 12) G.1 G.2.1 d_Mo_cutLine_93 (by decide) ?_
                    have J_103 : ∀ (y_j103 : Ly) (s_j103 : St) (d_j103 e_j103 : Nat) (x3j103 : Int32) (x4j103 : Int32) (x7j103 : Int32) (z0j103 : Int32) (H : Heap) (locs : List Loc), wja_Mo_cutLine_103 mc ms Post K_16 a0 a1 k1 y_j103 s_j103 d_j103 e_j103 x3j103 x4j103 x7j103 z0j103 → va_P D CL (ws g ad y_j103 s_j103) H → va_D A (ws g ad y_j103 s_j103) → va_S A s.heap H locs → ∀ ls, lv_has ls 8 [(0, .ref (ad a0)), (1, .ref (yP y_j103 a1 k1)), (3, .int x3j103), (4, .int x4j103), (7, .int x7j103)] → W p l e (ra_Mo_cutLine mc ms) s m args below meth c H locs d_j103 e_j103 Q (F0 m 103 ls [.int z0j103]) := by
                      intro y_j103 s_j103 d_j103 e_j103 x3j103 x4j103 x7j103 z0j103 H locs h hP hD hS ls hl
                      unfold wja_Mo_cutLine_103 at h
                      obtain ⟨hd, h⟩ := h
                      refine lv_istore (lv' := [(5, .int z0j103), (0, .ref (ad a0)), (1, .ref (yP y_j103 a1 k1)), (3, .int x3j103), (4, .int x4j103), (7, .int x7j103)]) G.1 G.2.1 d_Mo_cutLine_103 hl (by decide) rfl (fun ls hl => ?_)
                      refine lv_aload_n G.1 G.2.1 d_Mo_cutLine_105 rfl (lv_at hl 1 rfl) ?_
                      refine lv_iload G.1 G.2.1 d_Mo_cutLine_106 (lv_at hl 0 rfl) ?_
                      have J_116 : ∀ (y_j116 : Ly) (s_j116 : St) (d_j116 e_j116 : Nat) (x3j116 : Int32) (x4j116 : Int32) (x5j116 : Int32) (x7j116 : Int32) (z1j116 : Int32) (H : Heap) (locs : List Loc), wja_Mo_cutLine_116 mc ms Post K_16 a0 a1 k1 y_j116 s_j116 d_j116 e_j116 x3j116 x4j116 x5j116 x7j116 z1j116 → va_P D CL (ws g ad y_j116 s_j116) H → va_D A (ws g ad y_j116 s_j116) → va_S A s.heap H locs → ∀ ls, lv_has ls 8 [(0, .ref (ad a0)), (1, .ref (yP y_j116 a1 k1)), (3, .int x3j116), (4, .int x4j116), (5, .int x5j116), (7, .int x7j116)] → W p l e (ra_Mo_cutLine mc ms) s m args below meth c H locs d_j116 e_j116 Q (F0 m 116 ls [.int z1j116, .ref (ad a0)]) := by
                        intro y_j116 s_j116 d_j116 e_j116 x3j116 x4j116 x5j116 x7j116 z1j116 H locs h hP hD hS ls hl
                        unfold wja_Mo_cutLine_116 at h
                        obtain ⟨hd, h⟩ := h
                        refine lv_iload G.1 G.2.1 d_Mo_cutLine_116 (lv_at hl 4 rfl) ?_
                        have J_137 : ∀ (y_j137 : Ly) (s_j137 : St) (d_j137 e_j137 : Nat) (x3j137 : Int32) (x4j137 : Int32) (x5j137 : Int32) (x7j137 : Int32) (z1j137 : Int32) (z2j137 : Int32) (H : Heap) (locs : List Loc), wja_Mo_cutLine_137 mc ms Post K_16 a0 a1 k1 y_j137 s_j137 d_j137 e_j137 x3j137 x4j137 x5j137 x7j137 z1j137 z2j137 → va_P D CL (ws g ad y_j137 s_j137) H → va_D A (ws g ad y_j137 s_j137) → va_S A s.heap H locs → ∀ ls, lv_has ls 8 [(0, .ref (ad a0)), (1, .ref (yP y_j137 a1 k1)), (3, .int x3j137), (4, .int x4j137), (5, .int x5j137), (7, .int x7j137)] → W p l e (ra_Mo_cutLine mc ms) s m args below meth c H locs d_j137 e_j137 Q (F0 m 137 ls [.int z2j137, .int z1j137, .ref (ad a0)]) := by
                          intro y_j137 s_j137 d_j137 e_j137 x3j137 x4j137 x5j137 x7j137 z1j137 z2j137 H locs h hP hD hS ls hl
                          unfold wja_Mo_cutLine_137 at h
                          obtain ⟨hd, h⟩ := h
                          refine lv_iload G.1 G.2.1 d_Mo_cutLine_137 (lv_at hl 3 rfl) ?_
                          refine ucVv (As := [.int z1j137, .int z2j137, .int x4j137]) (rest := []) G hP hD hS (cu_Mo_addWord l D g ad y_j137 _ s_j137 a0 z1j137 z2j137 x4j137 H.size h_a0 h) w9_Mo_addWord q3504 ⟨Nat.le_of_ble_eq_true rfl, Nat.le_of_ble_eq_true rfl⟩ rfl rfl h_a0 (q := (RMo, TMo, 131)) rfl rfl hl.1 rfl (Nat.le_of_ble_eq_true rfl) rfl hd d_Mo_cutLine_139 (fun s_30 H locs h hP hD hS => ?_)
                          refine lv_goto (tgt := 376) G.1 G.2.1 d_Mo_cutLine_142 (by decide) ?_
                          exact J_376 y_j137 s_30 d_j137 e_j137 x3j137 x5j137 x7j137 H locs h hP hD hS ls (lv_sub hl [0, 1, 2, 4, 5] rfl)
                        refine lv_if_eq (tgt := 136) G.1 G.2.1 d_Mo_cutLine_118 (by decide) (fun c118 => ?_) (fun c118 => ?_)
                        · skip
                          have h := h.1 c118
                          refine lv_iconst (v := 0) G.1 G.2.1 d_Mo_cutLine_136 (by decide) ?_
                          exact J_137 y_j116 s_j116 d_j116 e_j116 x3j116 x4j116 x5j116 x7j116 z1j116 0 H locs h hP hD hS ls (lv_sub hl [0, 1, 2, 3, 4, 5] rfl)
                        · skip
                          have h := h.2 c118
                          refine lv_aload_n G.1 G.2.1 d_Mo_cutLine_121 rfl (lv_at hl 0 rfl) ?_
                          refine lv_aload_n G.1 G.2.1 d_Mo_cutLine_122 rfl (lv_at hl 1 rfl) ?_
                          refine lv_iload G.1 G.2.1 d_Mo_cutLine_123 (lv_at hl 3 rfl) ?_
                          refine lv_iload G.1 G.2.1 d_Mo_cutLine_125 (lv_at hl 5 rfl) ?_
                          refine lv_iload G.1 G.2.1 d_Mo_cutLine_127 (lv_at hl 3 rfl) ?_
                          refine lv_isub G.1 G.2.1 d_Mo_cutLine_129 ?_
                          obtain ⟨mc_36, ms_37, hr_38, h⟩ := h
                          refine uaVi (As := [.ref (yP y_j116 a1 k1), .int x4j116, .int (x7j116 - x4j116)]) (rest := [.int z1j116, .ref (ad a0)]) G hP hD hS (ca_Mo_nameIn l D g ad mc_36 ms_37 y_j116 _ s_j116 a0 a1 k1 x4j116 (x7j116 - x4j116) H.size (us H) h_a0 ⟨h_a1.1, h_a1.2⟩ h) w9_Mo_nameIn q2583 ⟨Nat.le_of_ble_eq_true rfl, Nat.le_of_ble_eq_true rfl⟩ rfl rfl h_a0 (q := (RMo, TMo, 131)) rfl rfl hl.1 rfl (Nat.le_of_ble_eq_true rfl) rfl hr_38 d_Mo_cutLine_130 (fun r_31 y_33 s_32 d_34 e_35 H locs h hP hD hS => ?_)
                          obtain ⟨hd, h⟩ := h
                          obtain ⟨n_39, h⟩ := h
                          rw [n_39] at hl
                          refine lv_goto (tgt := 137) G.1 G.2.1 d_Mo_cutLine_133 (by decide) ?_
                          exact J_137 y_33 s_32 (d_j116 + d_34) (e_j116 + e_35) x3j116 x4j116 x5j116 x7j116 z1j116 r_31 H locs h hP hD hS ls (lv_sub hl [0, 1, 2, 3, 4, 5] rfl)
                      refine lv_if_eq (tgt := 115) G.1 G.2.1 d_Mo_cutLine_108 (by decide) (fun c108 => ?_) (fun c108 => ?_)
                      · skip
                        have h := h.1 c108
                        refine lv_iconst (v := 1) G.1 G.2.1 d_Mo_cutLine_115 (by decide) ?_
                        exact J_116 y_j103 s_j103 d_j103 e_j103 x3j103 x4j103 z0j103 x7j103 1 H locs h hP hD hS ls (lv_sub hl [1, 2, 3, 4, 0, 5] rfl)
                      · skip
                        have h := h.2 c108
                        refine lv_iconst (v := 2) G.1 G.2.1 d_Mo_cutLine_111 (by decide) ?_
                        refine lv_goto (tgt := 116) G.1 G.2.1 d_Mo_cutLine_112 (by decide) ?_
                        exact J_116 y_j103 s_j103 d_j103 e_j103 x3j103 x4j103 z0j103 x7j103 2 H locs h hP hD hS ls (lv_sub hl [1, 2, 3, 4, 0, 5] rfl)
                    refine lv_icmp_gt (tgt := 102) G.1 G.2.1 d_Mo_cutLine_95 (by decide) (fun c95 => ?_) (fun c95 => ?_)
                    · skip
                      have h := h.1 c95
                      refine lv_iconst (v := 0) G.1 G.2.1 d_Mo_cutLine_102 (by decide) ?_
                      exact J_103 y_j88 s_j88 d_j88 e_j88 x3j88 x4j88 x7j88 0 H locs h hP hD hS ls (lv_sub hl [0, 1, 2, 3, 4] rfl)
                    · skip
                      have h := h.2 c95
                      refine lv_iconst (v := 1) G.1 G.2.1 d_Mo_cutLine_98 (by decide) ?_
                      refine lv_goto (tgt := 103) G.1 G.2.1 d_Mo_cutLine_99 (by decide) ?_
                      exact J_103 y_j88 s_j88 d_j88 e_j88 x3j88 x4j88 x7j88 1 H locs h hP hD hS ls (lv_sub hl [0, 1, 2, 3, 4] rfl)
                  refine lv_icmp_ge (tgt := 88) G.1 G.2.1 d_Mo_cutLine_59 (by decide) (fun c59 => ?_) (fun c59 => ?_)
                  · skip
                    have h := h.1 c59
                    exact J_88 y_h56 s_h56 d_h56 e_h56 x3h56 x4h56 x7h56 H locs h hP hD hS ls (lv_sub hl [0, 1, 2, 3, 4] rfl)
                  · skip
                    have h := h.2 c59
                    refine lv_aload_n G.1 G.2.1 d_Mo_cutLine_62 rfl (lv_at hl 1 rfl) ?_
                    refine lv_iload G.1 G.2.1 d_Mo_cutLine_63 (lv_at hl 4 rfl) ?_
                    refine ubald G hP h_a1.1 h_a1.2 h d_Mo_cutLine_65 (fun x_40 h => ?_)
                    refine ucSi (As := [.int x_40]) (rest := []) G hP hD hS (cu_Mo_isLetter l D g ad y_h56 _ s_h56 x_40 H.size  h) w9_Mo_isLetter q3498 ⟨Nat.le_of_ble_eq_true rfl, Nat.le_of_ble_eq_true rfl⟩ rfl rfl hl.1 rfl (Nat.le_of_ble_eq_true rfl) rfl hd d_Mo_cutLine_66 (fun r_41 s_42 H locs h hP hD hS => ?_)
                    have J_82 : ∀ (y_j82 : Ly) (s_j82 : St) (d_j82 e_j82 : Nat) (x3j82 : Int32) (x4j82 : Int32) (x7j82 : Int32) (H : Heap) (locs : List Loc), wja_Mo_cutLine_82 mc ms Post K_16 K_56 a0 a1 k1 y_j82 s_j82 d_j82 e_j82 x3j82 x4j82 x7j82 → va_P D CL (ws g ad y_j82 s_j82) H → va_D A (ws g ad y_j82 s_j82) → va_S A s.heap H locs → ∀ ls, lv_has ls 8 [(0, .ref (ad a0)), (1, .ref (yP y_j82 a1 k1)), (3, .int x3j82), (4, .int x4j82), (7, .int x7j82)] → W p l e (ra_Mo_cutLine mc ms) s m args below meth c H locs d_j82 e_j82 Q (F0 m 82 ls []) := by
                      intro y_j82 s_j82 d_j82 e_j82 x3j82 x4j82 x7j82 H locs h hP hD hS ls hl
                      unfold wja_Mo_cutLine_82 at h
                      obtain ⟨hd, h⟩ := h
                      refine lv_iinc (v := x7j82 + 1) (lv' := [(7, .int (x7j82 + 1)), (0, .ref (ad a0)), (1, .ref (yP y_j82 a1 k1)), (3, .int x3j82), (4, .int x4j82)]) G.1 G.2.1 d_Mo_cutLine_82 hl (k := 4) rfl rfl (by decide) rfl (fun ls hl => ?_)
                      refine lv_goto (tgt := 56) G.1 G.2.1 d_Mo_cutLine_85 (by decide) ?_
                      have h := hK_56 y_j82 s_j82 d_j82 e_j82 x3j82 x4j82 (x7j82 + 1) h
                      exact ih_56 y_j82 s_j82 d_j82 e_j82 x3j82 x4j82 (x7j82 + 1) (Nat.lt_of_lt_of_le h.2 (Nat.le_of_lt_succ hμ_56)) h.1 H locs hP hD hS ls (lv_sub hl [1, 2, 3, 4, 0] rfl)
                    refine lv_if_ne (tgt := 82) G.1 G.2.1 d_Mo_cutLine_69 (by decide) (fun c69 => ?_) (fun c69 => ?_)
                    · skip
                      have h := h.1 c69
                      exact J_82 y_h56 s_42 d_h56 e_h56 x3h56 x4h56 x7h56 H locs h hP hD hS ls (lv_sub hl [0, 1, 2, 3, 4] rfl)
                    · skip
                      have h := h.2 c69
                      refine lv_aload_n G.1 G.2.1 d_Mo_cutLine_72 rfl (lv_at hl 1 rfl) ?_
                      refine lv_iload G.1 G.2.1 d_Mo_cutLine_73 (lv_at hl 4 rfl) ?_
                      refine ubald G hP h_a1.1 h_a1.2 h d_Mo_cutLine_75 (fun x_43 h => ?_)
                      refine W.eq (g2 := F0 m 76 ls [.int x_43]) rfl ?_
                      refine ucSi (As := [.int x_43]) (rest := []) G hP hD hS (cu_Mo_isDigit l D g ad y_h56 _ s_42 x_43 H.size  h) w9_Mo_isDigit q3501 ⟨Nat.le_of_ble_eq_true rfl, Nat.le_of_ble_eq_true rfl⟩ rfl rfl hl.1 rfl (Nat.le_of_ble_eq_true rfl) rfl hd d_Mo_cutLine_76 (fun r_44 s_45 H locs h hP hD hS => ?_)
                      refine lv_if_eq (tgt := 88) G.1 G.2.1 d_Mo_cutLine_79 (by decide) (fun c79 => ?_) (fun c79 => ?_)
                      · skip
                        have h := h.1 c79
                        exact J_88 y_h56 s_45 d_h56 e_h56 x3h56 x4h56 x7h56 H locs h hP hD hS ls (lv_sub hl [0, 1, 2, 3, 4] rfl)
                      · skip
                        have h := h.2 c79
                        exact J_82 y_h56 s_45 d_h56 e_h56 x3h56 x4h56 x7h56 H locs h hP hD hS ls (lv_sub hl [0, 1, 2, 3, 4] rfl)
              exact L_56 _ y_h16 s_8 d_h16 e_h16 x3h16 x4h16 (x4h16 + 1) (Nat.lt_succ_self _) hI_56 H locs hP hD hS ls (lv_sub hl [2, 3, 4, 5, 0] rfl)
  exact L_16 _ y s_2 0 0 v3 v2 1 (Nat.lt_succ_self _) hI_16 H locs hP hD hS ls (lv_sub hl [2, 3, 5, 1, 0] rfl)
def y_Mo_addList : MethodName := ⟨"ClassWorksModel", "addList", "(I)V"⟩
abbrev b_Mo_addList : ByteArray := prog_14_method_44_code
theorem d_Mo_addList_0 : decode b_Mo_addList 0 = .ok (.aload_n 0, 1) := by decide +kernel
theorem d_Mo_addList_1 : decode b_Mo_addList 1 = .ok (.getfield 522, 3) := by decide +kernel
theorem d_Mo_addList_4 : decode b_Mo_addList 4 = .ok (.aload_n 0, 1) := by decide +kernel
theorem d_Mo_addList_5 : decode b_Mo_addList 5 = .ok (.getfield 522, 3) := by decide +kernel
theorem d_Mo_addList_8 : decode b_Mo_addList 8 = .ok (.getfield 689, 3) := by decide +kernel
theorem d_Mo_addList_11 : decode b_Mo_addList 11 = .ok (.aload_n 0, 1) := by decide +kernel
theorem d_Mo_addList_12 : decode b_Mo_addList 12 = .ok (.getfield 522, 3) := by decide +kernel
theorem d_Mo_addList_15 : decode b_Mo_addList 15 = .ok (.getfield 474, 3) := by decide +kernel
theorem d_Mo_addList_18 : decode b_Mo_addList 18 = .ok (.iconst 1, 1) := by decide +kernel
theorem d_Mo_addList_19 : decode b_Mo_addList 19 = .ok (.iadd, 1) := by decide +kernel
theorem d_Mo_addList_20 : decode b_Mo_addList 20 = .ok (.invokestatic 43, 3) := by decide +kernel
theorem d_Mo_addList_23 : decode b_Mo_addList 23 = .ok (.putfield 689, 3) := by decide +kernel
theorem d_Mo_addList_26 : decode b_Mo_addList 26 = .ok (.aload_n 0, 1) := by decide +kernel
theorem d_Mo_addList_27 : decode b_Mo_addList 27 = .ok (.getfield 522, 3) := by decide +kernel
theorem d_Mo_addList_30 : decode b_Mo_addList 30 = .ok (.getfield 689, 3) := by decide +kernel
theorem d_Mo_addList_33 : decode b_Mo_addList 33 = .ok (.aload_n 0, 1) := by decide +kernel
theorem d_Mo_addList_34 : decode b_Mo_addList 34 = .ok (.getfield 522, 3) := by decide +kernel
theorem d_Mo_addList_37 : decode b_Mo_addList 37 = .ok (.getfield 474, 3) := by decide +kernel
theorem d_Mo_addList_40 : decode b_Mo_addList 40 = .ok (.iload_n 1, 1) := by decide +kernel
theorem d_Mo_addList_41 : decode b_Mo_addList 41 = .ok (.iastore, 1) := by decide +kernel
theorem d_Mo_addList_42 : decode b_Mo_addList 42 = .ok (.aload_n 0, 1) := by decide +kernel
theorem d_Mo_addList_43 : decode b_Mo_addList 43 = .ok (.getfield 522, 3) := by decide +kernel
theorem d_Mo_addList_46 : decode b_Mo_addList 46 = .ok (.dup, 1) := by decide +kernel
theorem d_Mo_addList_47 : decode b_Mo_addList 47 = .ok (.getfield 474, 3) := by decide +kernel
theorem d_Mo_addList_50 : decode b_Mo_addList 50 = .ok (.iconst 1, 1) := by decide +kernel
theorem d_Mo_addList_51 : decode b_Mo_addList 51 = .ok (.iadd, 1) := by decide +kernel
theorem d_Mo_addList_52 : decode b_Mo_addList 52 = .ok (.putfield 474, 3) := by decide +kernel
theorem d_Mo_addList_55 : decode b_Mo_addList 55 = .ok (.return_, 1) := by decide +kernel
abbrev ra_Mo_addList (mc ms : Nat) : Room := { frames := 2, cells := mc, slots := ms, locals := 150 }
def wa_Mo_addList (mc ms : Nat) (y : Ly) (Post : Ly → St → Nat → Nat → Prop) (σ : St) (a0 : Nat) (v1 : Int32) : Prop := ∃ b_1 : Nat, sO σ a0 45 = some b_1 ∧ cl b_1 = 13 ∧ xR mc ms 0 0 .int y σ b_1 36 ((sV σ b_1 37) + 1) (fun (y_4 : Ly) (s_5 : St) (d_6 e_7 : Nat) => (d_6 ≤ mc ∧ e_7 ≤ ms) ∧ ∃ b_8 : Nat, sO s_5 a0 45 = some b_8 ∧ cl b_8 = 13 ∧ xS y_4 s_5 b_8 36 (sV s_5 b_8 37) v1 (fun s_11 : St => ∃ b_12 : Nat, sO s_11 a0 45 = some b_12 ∧ cl b_12 = 13 ∧ xP (uV s_11 b_12 37 ((sV s_11 b_12 37) + 1)) (fun s_15 : St => Post y_4 s_15 d_6 e_7)))
set_option maxHeartbeats 4000000 in
set_option maxRecDepth 100000 in
theorem ca_Mo_addList (l : Launch) (D : va_G) (g : Nat → ClassId) (ad : Nat → Nat) (mc ms : Nat) (y : Ly) (Post : Ly → St → Nat → Nat → Prop) (σ : St) (a0 : Nat) (v1 : Int32) (sz uz : Nat) (h_a0 : cl a0 = 14) (h : wa_Mo_addList mc ms y Post σ a0 v1) : Met l y_Mo_addList (mw y_Mo_addList b_Mo_addList 2 (none)) (ra_Mo_addList mc ms) (PCu g D [] [.ref (ad a0), .int v1] sz uz (ws g ad y σ)) (va_Qv (fun (u : Ly × St × Nat × Nat) => Post u.1 u.2.1 u.2.2.1 u.2.2.2) (QU D (va_A (ws g ad y σ) sz) (fun u => ws g ad u.1 u.2.1) sz uz (fun u => u.2.2.1) (fun u => u.2.2.2)) (va_A (ws g ad y σ) sz)) mc ms (va_A (ws g ad y σ) sz) := by
  refine ofVu (by decide +kernel) (Nat.le_of_ble_eq_true rfl) ?_
  intro p e s m args below meth c A Q ls H locs G hsz hP hD hS hl hret
  subst hsz
  have hl : lv_has ls 2 [(0, .ref (ad a0)), (1, .int v1)] := hl
  have hd : 0 ≤ mc ∧ 0 ≤ ms := ⟨Nat.zero_le _, Nat.zero_le _⟩
  unfold wa_Mo_addList at h
  refine lv_aload_n G.1 G.2.1 d_Mo_addList_0 rfl (lv_at hl 0 rfl) ?_
  obtain ⟨b_1, e_2, c_3, h⟩ := h
  refine ugf (v := .ref (ad b_1)) G hP h_a0 iMo rfl 45 (by decide) rfl q3109 rfl (by show va_rf ((sO σ a0 45).map ad) = _; rw [e_2]; rfl) d_Mo_addList_1 ?_
  refine lv_aload_n G.1 G.2.1 d_Mo_addList_4 rfl (lv_at hl 0 rfl) ?_
  refine ugf (v := .ref (ad b_1)) G hP h_a0 iMo rfl 45 (by decide) rfl q3109 rfl (by show va_rf ((sO σ a0 45).map ad) = _; rw [e_2]; rfl) d_Mo_addList_5 ?_
  refine ugfN (v := .ref (yP y b_1 36)) G hP c_3 iMw rfl 36 (by decide) rfl q2775 rfl rfl d_Mo_addList_8 ?_
  refine lv_aload_n G.1 G.2.1 d_Mo_addList_11 rfl (lv_at hl 0 rfl) ?_
  refine ugf (v := .ref (ad b_1)) G hP h_a0 iMo rfl 45 (by decide) rfl q3109 rfl (by show va_rf ((sO σ a0 45).map ad) = _; rw [e_2]; rfl) d_Mo_addList_12 ?_
  refine ugfN (v := .int (sV σ b_1 37)) G hP c_3 iMw rfl 37 (by decide) rfl q2776 rfl rfl d_Mo_addList_15 ?_
  refine lv_iconst (v := 1) G.1 G.2.1 d_Mo_addList_18 (by decide) ?_
  refine lv_iadd G.1 G.2.1 d_Mo_addList_19 ?_
  refine uroomN (C := RMw) (T := TMw) (N := 72) G hP hD hS (fun ws0 q1 q t n f sz he ht hn => c_Mo_room_k l D g ws0 q1 q t n f sz he ht hn) (fun ws0 q1 q t n f sz he hn ht hf => c_Mo_room_g l D g ws0 q1 q t n f sz he hn ht hf) w9_Mo_room q2596 ⟨Nat.le_of_ble_eq_true rfl, Nat.le_of_ble_eq_true rfl⟩ (Nat.le_refl _) (Nat.le_refl _) hd c_3 rfl rfl iMw tMw tMw_ok nMw rfl (by decide) q2775 rfl rfl (fun _ => rfl) (fun _ => rfl) hl.1 (Nat.le_of_ble_eq_true rfl) h d_Mo_addList_20 d_Mo_addList_23 (fun y_4 s_5 d_6 e_7 H locs h hP hD hS => ?_)
  obtain ⟨hd, h⟩ := h
  refine W.eq (g2 := F0 m 26 ls []) rfl ?_
  refine lv_aload_n G.1 G.2.1 d_Mo_addList_26 rfl (lv_at hl 0 rfl) ?_
  obtain ⟨b_8, e_9, c_10, h⟩ := h
  refine ugf (v := .ref (ad b_8)) G hP h_a0 iMo rfl 45 (by decide) rfl q3109 rfl (by show va_rf ((sO s_5 a0 45).map ad) = _; rw [e_9]; rfl) d_Mo_addList_27 ?_
  refine ugfN (v := .ref (yP y_4 b_8 36)) G hP c_10 iMw rfl 36 (by decide) rfl q2775 rfl rfl d_Mo_addList_30 ?_
  refine lv_aload_n G.1 G.2.1 d_Mo_addList_33 rfl (lv_at hl 0 rfl) ?_
  refine ugf (v := .ref (ad b_8)) G hP h_a0 iMo rfl 45 (by decide) rfl q3109 rfl (by show va_rf ((sO s_5 a0 45).map ad) = _; rw [e_9]; rfl) d_Mo_addList_34 ?_
  refine ugfN (v := .int (sV s_5 b_8 37)) G hP c_10 iMw rfl 37 (by decide) rfl q2776 rfl rfl d_Mo_addList_37 ?_
  refine lv_iload_n G.1 G.2.1 d_Mo_addList_40 rfl (lv_at hl 1 rfl) ?_
  refine uiast G hP hD hS (kdp c_10 rfl) (typ c_10 rfl) h d_Mo_addList_41 (fun s_11 H locs h hP hD hS => ?_)
  refine lv_aload_n G.1 G.2.1 d_Mo_addList_42 rfl (lv_at hl 0 rfl) ?_
  obtain ⟨b_12, e_13, c_14, h⟩ := h
  refine ugf (v := .ref (ad b_12)) G hP h_a0 iMo rfl 45 (by decide) rfl q3109 rfl (by show va_rf ((sO s_11 a0 45).map ad) = _; rw [e_13]; rfl) d_Mo_addList_43 ?_
  refine lv_dup G.1 G.2.1 d_Mo_addList_46 rfl ?_
  refine ugfN (v := .int (sV s_11 b_12 37)) G hP c_14 iMw rfl 37 (by decide) rfl q2776 rfl rfl d_Mo_addList_47 ?_
  refine W.eq (g2 := F0 m 50 ls [.int (sV s_11 b_12 37), .ref (ad b_12)]) rfl ?_
  refine lv_iconst (v := 1) G.1 G.2.1 d_Mo_addList_50 (by decide) ?_
  refine lv_iadd G.1 G.2.1 d_Mo_addList_51 ?_
  refine upfN G hP hD hS h 37 putV c_14 iMw tMw tMw_ok nMw rfl (by decide) rfl q2776 rfl rfl fV rfl rfl d_Mo_addList_52 (fun s_15 H locs h hP hD hS => ?_)
  exact hret (y_4, s_15, d_6, e_7) _ _ _ _ _ ls h hP hD hS (Nat.le_refl _) (Nat.le_refl _) hd.1 hd.2 d_Mo_addList_55
def y_Mo_newFault : MethodName := ⟨"ClassWorksModel", "newFault", "(II)I"⟩
abbrev b_Mo_newFault : ByteArray := prog_14_method_88_code
theorem q2806 : Cond.fieldLinkNest "ClassWorksModel" 875 "ClassWorksModel$World" "faultRules" "[I" "ClassWorksModel" ∈ lw_nest := lw_nestmem (List.mem_of_getElem? (i := 2806) (by decide +kernel)) rfl
theorem d_Mo_newFault_0 : decode b_Mo_newFault 0 = .ok (.aload_n 0, 1) := by decide +kernel
theorem d_Mo_newFault_1 : decode b_Mo_newFault 1 = .ok (.getfield 522, 3) := by decide +kernel
theorem d_Mo_newFault_4 : decode b_Mo_newFault 4 = .ok (.getfield 516, 3) := by decide +kernel
theorem d_Mo_newFault_7 : decode b_Mo_newFault 7 = .ok (.istore_n 3, 1) := by decide +kernel
theorem d_Mo_newFault_8 : decode b_Mo_newFault 8 = .ok (.aload_n 0, 1) := by decide +kernel
theorem d_Mo_newFault_9 : decode b_Mo_newFault 9 = .ok (.getfield 522, 3) := by decide +kernel
theorem d_Mo_newFault_12 : decode b_Mo_newFault 12 = .ok (.aload_n 0, 1) := by decide +kernel
theorem d_Mo_newFault_13 : decode b_Mo_newFault 13 = .ok (.getfield 522, 3) := by decide +kernel
theorem d_Mo_newFault_16 : decode b_Mo_newFault 16 = .ok (.getfield 869, 3) := by decide +kernel
theorem d_Mo_newFault_19 : decode b_Mo_newFault 19 = .ok (.iload_n 3, 1) := by decide +kernel
theorem d_Mo_newFault_20 : decode b_Mo_newFault 20 = .ok (.iconst 1, 1) := by decide +kernel
theorem d_Mo_newFault_21 : decode b_Mo_newFault 21 = .ok (.iadd, 1) := by decide +kernel
theorem d_Mo_newFault_22 : decode b_Mo_newFault 22 = .ok (.invokestatic 43, 3) := by decide +kernel
theorem d_Mo_newFault_25 : decode b_Mo_newFault 25 = .ok (.putfield 869, 3) := by decide +kernel
theorem d_Mo_newFault_28 : decode b_Mo_newFault 28 = .ok (.aload_n 0, 1) := by decide +kernel
theorem d_Mo_newFault_29 : decode b_Mo_newFault 29 = .ok (.getfield 522, 3) := by decide +kernel
theorem d_Mo_newFault_32 : decode b_Mo_newFault 32 = .ok (.aload_n 0, 1) := by decide +kernel
theorem d_Mo_newFault_33 : decode b_Mo_newFault 33 = .ok (.getfield 522, 3) := by decide +kernel
theorem d_Mo_newFault_36 : decode b_Mo_newFault 36 = .ok (.getfield 875, 3) := by decide +kernel
theorem d_Mo_newFault_39 : decode b_Mo_newFault 39 = .ok (.iload_n 3, 1) := by decide +kernel
theorem d_Mo_newFault_40 : decode b_Mo_newFault 40 = .ok (.iconst 1, 1) := by decide +kernel
theorem d_Mo_newFault_41 : decode b_Mo_newFault 41 = .ok (.iadd, 1) := by decide +kernel
theorem d_Mo_newFault_42 : decode b_Mo_newFault 42 = .ok (.invokestatic 43, 3) := by decide +kernel
theorem d_Mo_newFault_45 : decode b_Mo_newFault 45 = .ok (.putfield 875, 3) := by decide +kernel
theorem d_Mo_newFault_48 : decode b_Mo_newFault 48 = .ok (.aload_n 0, 1) := by decide +kernel
theorem d_Mo_newFault_49 : decode b_Mo_newFault 49 = .ok (.getfield 522, 3) := by decide +kernel
theorem d_Mo_newFault_52 : decode b_Mo_newFault 52 = .ok (.aload_n 0, 1) := by decide +kernel
theorem d_Mo_newFault_53 : decode b_Mo_newFault 53 = .ok (.getfield 522, 3) := by decide +kernel
theorem d_Mo_newFault_56 : decode b_Mo_newFault 56 = .ok (.getfield 878, 3) := by decide +kernel
theorem d_Mo_newFault_59 : decode b_Mo_newFault 59 = .ok (.iload_n 3, 1) := by decide +kernel
theorem d_Mo_newFault_60 : decode b_Mo_newFault 60 = .ok (.iconst 1, 1) := by decide +kernel
theorem d_Mo_newFault_61 : decode b_Mo_newFault 61 = .ok (.iadd, 1) := by decide +kernel
theorem d_Mo_newFault_62 : decode b_Mo_newFault 62 = .ok (.invokestatic 43, 3) := by decide +kernel
theorem d_Mo_newFault_65 : decode b_Mo_newFault 65 = .ok (.putfield 878, 3) := by decide +kernel
theorem d_Mo_newFault_68 : decode b_Mo_newFault 68 = .ok (.aload_n 0, 1) := by decide +kernel
theorem d_Mo_newFault_69 : decode b_Mo_newFault 69 = .ok (.getfield 522, 3) := by decide +kernel
theorem d_Mo_newFault_72 : decode b_Mo_newFault 72 = .ok (.getfield 869, 3) := by decide +kernel
theorem d_Mo_newFault_75 : decode b_Mo_newFault 75 = .ok (.iload_n 3, 1) := by decide +kernel
theorem d_Mo_newFault_76 : decode b_Mo_newFault 76 = .ok (.iload_n 1, 1) := by decide +kernel
theorem d_Mo_newFault_77 : decode b_Mo_newFault 77 = .ok (.iastore, 1) := by decide +kernel
theorem d_Mo_newFault_78 : decode b_Mo_newFault 78 = .ok (.aload_n 0, 1) := by decide +kernel
theorem d_Mo_newFault_79 : decode b_Mo_newFault 79 = .ok (.getfield 522, 3) := by decide +kernel
theorem d_Mo_newFault_82 : decode b_Mo_newFault 82 = .ok (.getfield 875, 3) := by decide +kernel
theorem d_Mo_newFault_85 : decode b_Mo_newFault 85 = .ok (.iload_n 3, 1) := by decide +kernel
theorem d_Mo_newFault_86 : decode b_Mo_newFault 86 = .ok (.iload_n 2, 1) := by decide +kernel
theorem d_Mo_newFault_87 : decode b_Mo_newFault 87 = .ok (.iastore, 1) := by decide +kernel
theorem d_Mo_newFault_88 : decode b_Mo_newFault 88 = .ok (.aload_n 0, 1) := by decide +kernel
theorem d_Mo_newFault_89 : decode b_Mo_newFault 89 = .ok (.getfield 522, 3) := by decide +kernel
theorem d_Mo_newFault_92 : decode b_Mo_newFault 92 = .ok (.getfield 878, 3) := by decide +kernel
theorem d_Mo_newFault_95 : decode b_Mo_newFault 95 = .ok (.iload_n 3, 1) := by decide +kernel
theorem d_Mo_newFault_96 : decode b_Mo_newFault 96 = .ok (.iconst 0, 1) := by decide +kernel
theorem d_Mo_newFault_97 : decode b_Mo_newFault 97 = .ok (.iastore, 1) := by decide +kernel
theorem d_Mo_newFault_98 : decode b_Mo_newFault 98 = .ok (.aload_n 0, 1) := by decide +kernel
theorem d_Mo_newFault_99 : decode b_Mo_newFault 99 = .ok (.getfield 522, 3) := by decide +kernel
theorem d_Mo_newFault_102 : decode b_Mo_newFault 102 = .ok (.aload_n 0, 1) := by decide +kernel
theorem d_Mo_newFault_103 : decode b_Mo_newFault 103 = .ok (.getfield 522, 3) := by decide +kernel
theorem d_Mo_newFault_106 : decode b_Mo_newFault 106 = .ok (.getfield 881, 3) := by decide +kernel
theorem d_Mo_newFault_109 : decode b_Mo_newFault 109 = .ok (.iload_n 3, 1) := by decide +kernel
theorem d_Mo_newFault_110 : decode b_Mo_newFault 110 = .ok (.iconst 1, 1) := by decide +kernel
theorem d_Mo_newFault_111 : decode b_Mo_newFault 111 = .ok (.iadd, 1) := by decide +kernel
theorem d_Mo_newFault_112 : decode b_Mo_newFault 112 = .ok (.invokestatic 43, 3) := by decide +kernel
theorem d_Mo_newFault_115 : decode b_Mo_newFault 115 = .ok (.putfield 881, 3) := by decide +kernel
theorem d_Mo_newFault_118 : decode b_Mo_newFault 118 = .ok (.aload_n 0, 1) := by decide +kernel
theorem d_Mo_newFault_119 : decode b_Mo_newFault 119 = .ok (.getfield 522, 3) := by decide +kernel
theorem d_Mo_newFault_122 : decode b_Mo_newFault 122 = .ok (.dup, 1) := by decide +kernel
theorem d_Mo_newFault_123 : decode b_Mo_newFault 123 = .ok (.getfield 516, 3) := by decide +kernel
theorem d_Mo_newFault_126 : decode b_Mo_newFault 126 = .ok (.iconst 1, 1) := by decide +kernel
theorem d_Mo_newFault_127 : decode b_Mo_newFault 127 = .ok (.iadd, 1) := by decide +kernel
theorem d_Mo_newFault_128 : decode b_Mo_newFault 128 = .ok (.putfield 516, 3) := by decide +kernel
theorem d_Mo_newFault_131 : decode b_Mo_newFault 131 = .ok (.sipush 1001, 3) := by decide +kernel
theorem d_Mo_newFault_134 : decode b_Mo_newFault 134 = .ok (.iload_n 3, 1) := by decide +kernel
theorem d_Mo_newFault_135 : decode b_Mo_newFault 135 = .ok (.iadd, 1) := by decide +kernel
theorem d_Mo_newFault_136 : decode b_Mo_newFault 136 = .ok (.ireturn, 1) := by decide +kernel
abbrev ra_Mo_newFault (mc ms : Nat) : Room := { frames := 2, cells := mc, slots := ms, locals := 150 }
def wa_Mo_newFault (mc ms : Nat) (y : Ly) (Post : Ly → St → Int32 → Nat → Nat → Prop) (σ : St) (a0 : Nat) (v1 : Int32) (v2 : Int32) : Prop := ∃ b_1 : Nat, sO σ a0 45 = some b_1 ∧ cl b_1 = 13 ∧ xR mc ms 0 0 .int y σ b_1 53 ((sV σ b_1 56) + 1) (fun (y_4 : Ly) (s_5 : St) (d_6 e_7 : Nat) => (d_6 ≤ mc ∧ e_7 ≤ ms) ∧ ∃ b_8 : Nat, sO s_5 a0 45 = some b_8 ∧ cl b_8 = 13 ∧ xR mc ms d_6 e_7 .int y_4 s_5 b_8 54 ((sV σ b_1 56) + 1) (fun (y_11 : Ly) (s_12 : St) (d_13 e_14 : Nat) => (d_13 ≤ mc ∧ e_14 ≤ ms) ∧ ∃ b_15 : Nat, sO s_12 a0 45 = some b_15 ∧ cl b_15 = 13 ∧ xR mc ms d_13 e_14 .int y_11 s_12 b_15 55 ((sV σ b_1 56) + 1) (fun (y_18 : Ly) (s_19 : St) (d_20 e_21 : Nat) => (d_20 ≤ mc ∧ e_21 ≤ ms) ∧ ∃ b_22 : Nat, sO s_19 a0 45 = some b_22 ∧ cl b_22 = 13 ∧ xS y_18 s_19 b_22 53 (sV σ b_1 56) v1 (fun s_25 : St => ∃ b_26 : Nat, sO s_25 a0 45 = some b_26 ∧ cl b_26 = 13 ∧ xS y_18 s_25 b_26 54 (sV σ b_1 56) v2 (fun s_29 : St => ∃ b_30 : Nat, sO s_29 a0 45 = some b_30 ∧ cl b_30 = 13 ∧ xS y_18 s_29 b_30 55 (sV σ b_1 56) 0 (fun s_33 : St => ∃ b_34 : Nat, sO s_33 a0 45 = some b_34 ∧ cl b_34 = 13 ∧ xR mc ms d_20 e_21 .int y_18 s_33 b_34 58 ((sV σ b_1 56) + 1) (fun (y_37 : Ly) (s_38 : St) (d_39 e_40 : Nat) => (d_39 ≤ mc ∧ e_40 ≤ ms) ∧ ∃ b_41 : Nat, sO s_38 a0 45 = some b_41 ∧ cl b_41 = 13 ∧ xP (uV s_38 b_41 56 ((sV s_38 b_41 56) + 1)) (fun s_44 : St => Post y_37 s_44 (1001 + (sV σ b_1 56)) d_39 e_40))))))))
set_option maxHeartbeats 4000000 in
set_option maxRecDepth 100000 in
theorem ca_Mo_newFault (l : Launch) (D : va_G) (g : Nat → ClassId) (ad : Nat → Nat) (mc ms : Nat) (y : Ly) (Post : Ly → St → Int32 → Nat → Nat → Prop) (σ : St) (a0 : Nat) (v1 : Int32) (v2 : Int32) (sz uz : Nat) (h_a0 : cl a0 = 14) (h : wa_Mo_newFault mc ms y Post σ a0 v1 v2) : Met l y_Mo_newFault (mw y_Mo_newFault b_Mo_newFault 4 (some .int)) (ra_Mo_newFault mc ms) (PCu g D [] [.ref (ad a0), .int v1, .int v2] sz uz (ws g ad y σ)) (va_Qi (fun (r : Int32) (u : Ly × St × Nat × Nat) => Post u.1 u.2.1 r u.2.2.1 u.2.2.2) (QU D (va_A (ws g ad y σ) sz) (fun u => ws g ad u.1 u.2.1) sz uz (fun u => u.2.2.1) (fun u => u.2.2.2)) (va_A (ws g ad y σ) sz)) mc ms (va_A (ws g ad y σ) sz) := by
  refine ofIu (by decide +kernel) (Nat.le_of_ble_eq_true rfl) ?_
  intro p e s m args below meth c A Q ls H locs G hsz hP hD hS hl hret
  subst hsz
  have hl : lv_has ls 4 [(0, .ref (ad a0)), (1, .int v1), (2, .int v2)] := hl
  have hd : 0 ≤ mc ∧ 0 ≤ ms := ⟨Nat.zero_le _, Nat.zero_le _⟩
  unfold wa_Mo_newFault at h
  refine lv_aload_n G.1 G.2.1 d_Mo_newFault_0 rfl (lv_at hl 0 rfl) ?_
  obtain ⟨b_1, e_2, c_3, h⟩ := h
  refine ugf (v := .ref (ad b_1)) G hP h_a0 iMo rfl 45 (by decide) rfl q3109 rfl (by show va_rf ((sO σ a0 45).map ad) = _; rw [e_2]; rfl) d_Mo_newFault_1 ?_
  refine ugfN (v := .int (sV σ b_1 56)) G hP c_3 iMw rfl 56 (by decide) rfl q2809 rfl rfl d_Mo_newFault_4 ?_
  refine lv_istore_n (lv' := [(3, .int (sV σ b_1 56)), (0, .ref (ad a0)), (1, .int v1), (2, .int v2)]) G.1 G.2.1 d_Mo_newFault_7 rfl hl (by decide) rfl (fun ls hl => ?_)
  refine lv_aload_n G.1 G.2.1 d_Mo_newFault_8 rfl (lv_at hl 1 rfl) ?_
  refine ugf (v := .ref (ad b_1)) G hP h_a0 iMo rfl 45 (by decide) rfl q3109 rfl (by show va_rf ((sO σ a0 45).map ad) = _; rw [e_2]; rfl) d_Mo_newFault_9 ?_
  refine lv_aload_n G.1 G.2.1 d_Mo_newFault_12 rfl (lv_at hl 1 rfl) ?_
  refine ugf (v := .ref (ad b_1)) G hP h_a0 iMo rfl 45 (by decide) rfl q3109 rfl (by show va_rf ((sO σ a0 45).map ad) = _; rw [e_2]; rfl) d_Mo_newFault_13 ?_
  refine ugfN (v := .ref (yP y b_1 53)) G hP c_3 iMw rfl 53 (by decide) rfl q2804 rfl rfl d_Mo_newFault_16 ?_
  refine lv_iload_n G.1 G.2.1 d_Mo_newFault_19 rfl (lv_at hl 0 rfl) ?_
  refine lv_iconst (v := 1) G.1 G.2.1 d_Mo_newFault_20 (by decide) ?_
  refine W.eq (g2 := F0 m 21 ls [.int 1, .int (sV σ b_1 56), .ref (yP y b_1 53), .ref (ad b_1)]) rfl ?_
  refine lv_iadd G.1 G.2.1 d_Mo_newFault_21 ?_
  refine uroomN (C := RMw) (T := TMw) (N := 72) G hP hD hS (fun ws0 q1 q t n f sz he ht hn => c_Mo_room_k l D g ws0 q1 q t n f sz he ht hn) (fun ws0 q1 q t n f sz he hn ht hf => c_Mo_room_g l D g ws0 q1 q t n f sz he hn ht hf) w9_Mo_room q2596 ⟨Nat.le_of_ble_eq_true rfl, Nat.le_of_ble_eq_true rfl⟩ (Nat.le_refl _) (Nat.le_refl _) hd c_3 rfl rfl iMw tMw tMw_ok nMw rfl (by decide) q2804 rfl rfl (fun _ => rfl) (fun _ => rfl) hl.1 (Nat.le_of_ble_eq_true rfl) h d_Mo_newFault_22 d_Mo_newFault_25 (fun y_4 s_5 d_6 e_7 H locs h hP hD hS => ?_)
  obtain ⟨hd, h⟩ := h
  refine lv_aload_n G.1 G.2.1 d_Mo_newFault_28 rfl (lv_at hl 1 rfl) ?_
  obtain ⟨b_8, e_9, c_10, h⟩ := h
  refine ugf (v := .ref (ad b_8)) G hP h_a0 iMo rfl 45 (by decide) rfl q3109 rfl (by show va_rf ((sO s_5 a0 45).map ad) = _; rw [e_9]; rfl) d_Mo_newFault_29 ?_
  refine lv_aload_n G.1 G.2.1 d_Mo_newFault_32 rfl (lv_at hl 1 rfl) ?_
  refine ugf (v := .ref (ad b_8)) G hP h_a0 iMo rfl 45 (by decide) rfl q3109 rfl (by show va_rf ((sO s_5 a0 45).map ad) = _; rw [e_9]; rfl) d_Mo_newFault_33 ?_
  refine ugfN (v := .ref (yP y_4 b_8 54)) G hP c_10 iMw rfl 54 (by decide) rfl q2806 rfl rfl d_Mo_newFault_36 ?_
  refine lv_iload_n G.1 G.2.1 d_Mo_newFault_39 rfl (lv_at hl 0 rfl) ?_
  refine lv_iconst (v := 1) G.1 G.2.1 d_Mo_newFault_40 (by decide) ?_
  refine lv_iadd G.1 G.2.1 d_Mo_newFault_41 ?_
  refine uroomN (C := RMw) (T := TMw) (N := 72) G hP hD hS (fun ws0 q1 q t n f sz he ht hn => c_Mo_room_k l D g ws0 q1 q t n f sz he ht hn) (fun ws0 q1 q t n f sz he hn ht hf => c_Mo_room_g l D g ws0 q1 q t n f sz he hn ht hf) w9_Mo_room q2596 ⟨Nat.le_of_ble_eq_true rfl, Nat.le_of_ble_eq_true rfl⟩ (Nat.le_refl _) (Nat.le_refl _) hd c_10 rfl rfl iMw tMw tMw_ok nMw rfl (by decide) q2806 rfl rfl (fun _ => rfl) (fun _ => rfl) hl.1 (Nat.le_of_ble_eq_true rfl) h d_Mo_newFault_42 d_Mo_newFault_45 (fun y_11 s_12 d_13 e_14 H locs h hP hD hS => ?_)
  obtain ⟨hd, h⟩ := h
  refine lv_aload_n G.1 G.2.1 d_Mo_newFault_48 rfl (lv_at hl 1 rfl) ?_
  refine W.eq (g2 := F0 m 49 ls [.ref (ad a0)]) rfl ?_
  obtain ⟨b_15, e_16, c_17, h⟩ := h
  refine ugf (v := .ref (ad b_15)) G hP h_a0 iMo rfl 45 (by decide) rfl q3109 rfl (by show va_rf ((sO s_12 a0 45).map ad) = _; rw [e_16]; rfl) d_Mo_newFault_49 ?_
  refine lv_aload_n G.1 G.2.1 d_Mo_newFault_52 rfl (lv_at hl 1 rfl) ?_
  refine ugf (v := .ref (ad b_15)) G hP h_a0 iMo rfl 45 (by decide) rfl q3109 rfl (by show va_rf ((sO s_12 a0 45).map ad) = _; rw [e_16]; rfl) d_Mo_newFault_53 ?_
  refine ugfN (v := .ref (yP y_11 b_15 55)) G hP c_17 iMw rfl 55 (by decide) rfl q2808 rfl rfl d_Mo_newFault_56 ?_
  refine lv_iload_n G.1 G.2.1 d_Mo_newFault_59 rfl (lv_at hl 0 rfl) ?_
  refine lv_iconst (v := 1) G.1 G.2.1 d_Mo_newFault_60 (by decide) ?_
  refine lv_iadd G.1 G.2.1 d_Mo_newFault_61 ?_
  refine uroomN (C := RMw) (T := TMw) (N := 72) G hP hD hS (fun ws0 q1 q t n f sz he ht hn => c_Mo_room_k l D g ws0 q1 q t n f sz he ht hn) (fun ws0 q1 q t n f sz he hn ht hf => c_Mo_room_g l D g ws0 q1 q t n f sz he hn ht hf) w9_Mo_room q2596 ⟨Nat.le_of_ble_eq_true rfl, Nat.le_of_ble_eq_true rfl⟩ (Nat.le_refl _) (Nat.le_refl _) hd c_17 rfl rfl iMw tMw tMw_ok nMw rfl (by decide) q2808 rfl rfl (fun _ => rfl) (fun _ => rfl) hl.1 (Nat.le_of_ble_eq_true rfl) h d_Mo_newFault_62 d_Mo_newFault_65 (fun y_18 s_19 d_20 e_21 H locs h hP hD hS => ?_)
  obtain ⟨hd, h⟩ := h
  refine lv_aload_n G.1 G.2.1 d_Mo_newFault_68 rfl (lv_at hl 1 rfl) ?_
  obtain ⟨b_22, e_23, c_24, h⟩ := h
  refine ugf (v := .ref (ad b_22)) G hP h_a0 iMo rfl 45 (by decide) rfl q3109 rfl (by show va_rf ((sO s_19 a0 45).map ad) = _; rw [e_23]; rfl) d_Mo_newFault_69 ?_
  refine ugfN (v := .ref (yP y_18 b_22 53)) G hP c_24 iMw rfl 53 (by decide) rfl q2804 rfl rfl d_Mo_newFault_72 ?_
  refine lv_iload_n G.1 G.2.1 d_Mo_newFault_75 rfl (lv_at hl 0 rfl) ?_
  refine W.eq (g2 := F0 m 76 ls [.int (sV σ b_1 56), .ref (yP y_18 b_22 53)]) rfl ?_
  refine lv_iload_n G.1 G.2.1 d_Mo_newFault_76 rfl (lv_at hl 2 rfl) ?_
  refine uiast G hP hD hS (kdp c_24 rfl) (typ c_24 rfl) h d_Mo_newFault_77 (fun s_25 H locs h hP hD hS => ?_)
  refine lv_aload_n G.1 G.2.1 d_Mo_newFault_78 rfl (lv_at hl 1 rfl) ?_
  obtain ⟨b_26, e_27, c_28, h⟩ := h
  refine ugf (v := .ref (ad b_26)) G hP h_a0 iMo rfl 45 (by decide) rfl q3109 rfl (by show va_rf ((sO s_25 a0 45).map ad) = _; rw [e_27]; rfl) d_Mo_newFault_79 ?_
  refine ugfN (v := .ref (yP y_18 b_26 54)) G hP c_28 iMw rfl 54 (by decide) rfl q2806 rfl rfl d_Mo_newFault_82 ?_
  refine lv_iload_n G.1 G.2.1 d_Mo_newFault_85 rfl (lv_at hl 0 rfl) ?_
  refine lv_iload_n G.1 G.2.1 d_Mo_newFault_86 rfl (lv_at hl 3 rfl) ?_
  refine uiast G hP hD hS (kdp c_28 rfl) (typ c_28 rfl) h d_Mo_newFault_87 (fun s_29 H locs h hP hD hS => ?_)
  refine lv_aload_n G.1 G.2.1 d_Mo_newFault_88 rfl (lv_at hl 1 rfl) ?_
  obtain ⟨b_30, e_31, c_32, h⟩ := h
  refine ugf (v := .ref (ad b_30)) G hP h_a0 iMo rfl 45 (by decide) rfl q3109 rfl (by show va_rf ((sO s_29 a0 45).map ad) = _; rw [e_31]; rfl) d_Mo_newFault_89 ?_
  refine ugfN (v := .ref (yP y_18 b_30 55)) G hP c_32 iMw rfl 55 (by decide) rfl q2808 rfl rfl d_Mo_newFault_92 ?_
  refine lv_iload_n G.1 G.2.1 d_Mo_newFault_95 rfl (lv_at hl 0 rfl) ?_
  refine W.eq (g2 := F0 m 96 ls [.int (sV σ b_1 56), .ref (yP y_18 b_30 55)]) rfl ?_
  refine lv_iconst (v := 0) G.1 G.2.1 d_Mo_newFault_96 (by decide) ?_
  refine uiast G hP hD hS (kdp c_32 rfl) (typ c_32 rfl) h d_Mo_newFault_97 (fun s_33 H locs h hP hD hS => ?_)
  refine lv_aload_n G.1 G.2.1 d_Mo_newFault_98 rfl (lv_at hl 1 rfl) ?_
  obtain ⟨b_34, e_35, c_36, h⟩ := h
  refine ugf (v := .ref (ad b_34)) G hP h_a0 iMo rfl 45 (by decide) rfl q3109 rfl (by show va_rf ((sO s_33 a0 45).map ad) = _; rw [e_35]; rfl) d_Mo_newFault_99 ?_
  refine lv_aload_n G.1 G.2.1 d_Mo_newFault_102 rfl (lv_at hl 1 rfl) ?_
  refine ugf (v := .ref (ad b_34)) G hP h_a0 iMo rfl 45 (by decide) rfl q3109 rfl (by show va_rf ((sO s_33 a0 45).map ad) = _; rw [e_35]; rfl) d_Mo_newFault_103 ?_
  refine ugfN (v := .ref (yP y_18 b_34 58)) G hP c_36 iMw rfl 58 (by decide) rfl q2813 rfl rfl d_Mo_newFault_106 ?_
  refine lv_iload_n G.1 G.2.1 d_Mo_newFault_109 rfl (lv_at hl 0 rfl) ?_
  refine lv_iconst (v := 1) G.1 G.2.1 d_Mo_newFault_110 (by decide) ?_
  refine lv_iadd G.1 G.2.1 d_Mo_newFault_111 ?_
  refine uroomN (C := RMw) (T := TMw) (N := 72) G hP hD hS (fun ws0 q1 q t n f sz he ht hn => c_Mo_room_k l D g ws0 q1 q t n f sz he ht hn) (fun ws0 q1 q t n f sz he hn ht hf => c_Mo_room_g l D g ws0 q1 q t n f sz he hn ht hf) w9_Mo_room q2596 ⟨Nat.le_of_ble_eq_true rfl, Nat.le_of_ble_eq_true rfl⟩ (Nat.le_refl _) (Nat.le_refl _) hd c_36 rfl rfl iMw tMw tMw_ok nMw rfl (by decide) q2813 rfl rfl (fun _ => rfl) (fun _ => rfl) hl.1 (Nat.le_of_ble_eq_true rfl) h d_Mo_newFault_112 d_Mo_newFault_115 (fun y_37 s_38 d_39 e_40 H locs h hP hD hS => ?_)
  have hl := lv_sub (l' := [(3, .int (sV σ b_1 56)), (0, .ref (ad a0))]) hl [0, 1] rfl
  obtain ⟨hd, h⟩ := h
  refine lv_aload_n G.1 G.2.1 d_Mo_newFault_118 rfl (lv_at hl 1 rfl) ?_
  refine W.eq (g2 := F0 m 119 ls [.ref (ad a0)]) rfl ?_
  obtain ⟨b_41, e_42, c_43, h⟩ := h
  refine ugf (v := .ref (ad b_41)) G hP h_a0 iMo rfl 45 (by decide) rfl q3109 rfl (by show va_rf ((sO s_38 a0 45).map ad) = _; rw [e_42]; rfl) d_Mo_newFault_119 ?_
  refine lv_dup G.1 G.2.1 d_Mo_newFault_122 rfl ?_
  refine ugfN (v := .int (sV s_38 b_41 56)) G hP c_43 iMw rfl 56 (by decide) rfl q2809 rfl rfl d_Mo_newFault_123 ?_
  refine lv_iconst (v := 1) G.1 G.2.1 d_Mo_newFault_126 (by decide) ?_
  refine lv_iadd G.1 G.2.1 d_Mo_newFault_127 ?_
  refine upfN G hP hD hS h 56 putV c_43 iMw tMw tMw_ok nMw rfl (by decide) rfl q2809 rfl rfl fV rfl rfl d_Mo_newFault_128 (fun s_44 H locs h hP hD hS => ?_)
  refine lv_sipush (v := 1001) G.1 G.2.1 d_Mo_newFault_131 (by decide) ?_
  refine lv_iload_n G.1 G.2.1 d_Mo_newFault_134 rfl (lv_at hl 0 rfl) ?_
  refine lv_iadd G.1 G.2.1 d_Mo_newFault_135 ?_
  exact hret _ (y_37, s_44, d_39, e_40) _ _ _ _ _ ls h hP hD hS (Nat.le_refl _) (Nat.le_refl _) hd.1 hd.2 d_Mo_newFault_136
theorem q3887 : Cond.methodLink "ClassWorksModel" 954 y_Mo_newFault ∈ lw_ok := lw_okmem (List.mem_of_getElem? (i := 3887) (by decide +kernel)) rfl
theorem q3890 : Cond.code y_Mo_newFault b_Mo_newFault 4 (some .int) ∈ lw_ok := lw_okmem (List.mem_of_getElem? (i := 3890) (by decide +kernel)) rfl
theorem q3889 : Cond.instanceMethod y_Mo_newFault ∈ lw_ok := lw_okmem (List.mem_of_getElem? (i := 3889) (by decide +kernel)) rfl
theorem q261 : Cond.selects y_Mo_newFault.cls y_Mo_newFault y_Mo_newFault ∈ lw_ok := lw_okmem (List.mem_of_getElem? (i := 261) (by decide +kernel)) rfl
theorem w9_Mo_newFault : CWv y_Mo_newFault b_Mo_newFault 4 (some .int) 2 ∧ Cond.instanceMethod y_Mo_newFault ∈ lw_ok ∧ Cond.selects y_Mo_newFault.cls y_Mo_newFault y_Mo_newFault ∈ lw_ok := ⟨⟨q3890, q348, by decide +kernel, by decide +kernel, by decide +kernel⟩, q3889, q261⟩
theorem q3895 : Cond.methodLink "ClassWorksModel" 967 y_Mo_handlerOf ∈ lw_ok := lw_okmem (List.mem_of_getElem? (i := 3895) (by decide +kernel)) rfl
theorem q3898 : Cond.code y_Mo_handlerOf b_Mo_handlerOf 7 (some .int) ∈ lw_ok := lw_okmem (List.mem_of_getElem? (i := 3898) (by decide +kernel)) rfl
theorem q3897 : Cond.instanceMethod y_Mo_handlerOf ∈ lw_ok := lw_okmem (List.mem_of_getElem? (i := 3897) (by decide +kernel)) rfl
theorem q263 : Cond.selects y_Mo_handlerOf.cls y_Mo_handlerOf y_Mo_handlerOf ∈ lw_ok := lw_okmem (List.mem_of_getElem? (i := 263) (by decide +kernel)) rfl
theorem w9_Mo_handlerOf : CWv y_Mo_handlerOf b_Mo_handlerOf 7 (some .int) 2 ∧ Cond.instanceMethod y_Mo_handlerOf ∈ lw_ok ∧ Cond.selects y_Mo_handlerOf.cls y_Mo_handlerOf y_Mo_handlerOf ∈ lw_ok := ⟨⟨q3898, q348, by decide +kernel, by decide +kernel, by decide +kernel⟩, q3897, q263⟩
def y_Mo_unwind : MethodName := ⟨"ClassWorksModel", "unwind", "(I)V"⟩
abbrev b_Mo_unwind : ByteArray := prog_14_method_100_code
theorem d_Mo_unwind_0 : decode b_Mo_unwind 0 = .ok (.iload_n 1, 1) := by decide +kernel
theorem d_Mo_unwind_1 : decode b_Mo_unwind 1 = .ok (.istore_n 2, 1) := by decide +kernel
theorem d_Mo_unwind_2 : decode b_Mo_unwind 2 = .ok (.aload_n 0, 1) := by decide +kernel
theorem d_Mo_unwind_3 : decode b_Mo_unwind 3 = .ok (.getfield 917, 3) := by decide +kernel
theorem d_Mo_unwind_6 : decode b_Mo_unwind 6 = .ok (.getfield 945, 3) := by decide +kernel
theorem d_Mo_unwind_9 : decode b_Mo_unwind 9 = .ok (.ifCond .le 202, 3) := by decide +kernel
theorem d_Mo_unwind_12 : decode b_Mo_unwind 12 = .ok (.aload_n 0, 1) := by decide +kernel
theorem d_Mo_unwind_13 : decode b_Mo_unwind 13 = .ok (.getfield 917, 3) := by decide +kernel
theorem d_Mo_unwind_16 : decode b_Mo_unwind 16 = .ok (.getfield 945, 3) := by decide +kernel
theorem d_Mo_unwind_19 : decode b_Mo_unwind 19 = .ok (.iconst 1, 1) := by decide +kernel
theorem d_Mo_unwind_20 : decode b_Mo_unwind 20 = .ok (.isub, 1) := by decide +kernel
theorem d_Mo_unwind_21 : decode b_Mo_unwind 21 = .ok (.istore_n 3, 1) := by decide +kernel
theorem d_Mo_unwind_22 : decode b_Mo_unwind 22 = .ok (.aload_n 0, 1) := by decide +kernel
theorem d_Mo_unwind_23 : decode b_Mo_unwind 23 = .ok (.getfield 917, 3) := by decide +kernel
theorem d_Mo_unwind_26 : decode b_Mo_unwind 26 = .ok (.getfield 942, 3) := by decide +kernel
theorem d_Mo_unwind_29 : decode b_Mo_unwind 29 = .ok (.iload_n 3, 1) := by decide +kernel
theorem d_Mo_unwind_30 : decode b_Mo_unwind 30 = .ok (.iaload, 1) := by decide +kernel
theorem d_Mo_unwind_31 : decode b_Mo_unwind 31 = .ok (.istore 4, 2) := by decide +kernel
theorem d_Mo_unwind_33 : decode b_Mo_unwind 33 = .ok (.iload 4, 2) := by decide +kernel
theorem d_Mo_unwind_35 : decode b_Mo_unwind 35 = .ok (.ifCond .lt 104, 3) := by decide +kernel
theorem d_Mo_unwind_38 : decode b_Mo_unwind 38 = .ok (.aload_n 0, 1) := by decide +kernel
theorem d_Mo_unwind_39 : decode b_Mo_unwind 39 = .ok (.iload 4, 2) := by decide +kernel
theorem d_Mo_unwind_41 : decode b_Mo_unwind 41 = .ok (.iload_n 2, 1) := by decide +kernel
theorem d_Mo_unwind_42 : decode b_Mo_unwind 42 = .ok (.invokevirtual 967, 3) := by decide +kernel
theorem d_Mo_unwind_45 : decode b_Mo_unwind 45 = .ok (.istore 5, 2) := by decide +kernel
theorem d_Mo_unwind_47 : decode b_Mo_unwind 47 = .ok (.iload 5, 2) := by decide +kernel
theorem d_Mo_unwind_49 : decode b_Mo_unwind 49 = .ok (.ifCond .lt 59, 3) := by decide +kernel
theorem d_Mo_unwind_52 : decode b_Mo_unwind 52 = .ok (.aload_n 0, 1) := by decide +kernel
theorem d_Mo_unwind_53 : decode b_Mo_unwind 53 = .ok (.getfield 917, 3) := by decide +kernel
theorem d_Mo_unwind_56 : decode b_Mo_unwind 56 = .ok (.getfield 933, 3) := by decide +kernel
theorem d_Mo_unwind_59 : decode b_Mo_unwind 59 = .ok (.iload 4, 2) := by decide +kernel
theorem d_Mo_unwind_61 : decode b_Mo_unwind 61 = .ok (.iconst 0, 1) := by decide +kernel
theorem d_Mo_unwind_62 : decode b_Mo_unwind 62 = .ok (.iastore, 1) := by decide +kernel
theorem d_Mo_unwind_63 : decode b_Mo_unwind 63 = .ok (.aload_n 0, 1) := by decide +kernel
theorem d_Mo_unwind_64 : decode b_Mo_unwind 64 = .ok (.iload 4, 2) := by decide +kernel
theorem d_Mo_unwind_66 : decode b_Mo_unwind 66 = .ok (.iload_n 2, 1) := by decide +kernel
theorem d_Mo_unwind_67 : decode b_Mo_unwind 67 = .ok (.iconst 1, 1) := by decide +kernel
theorem d_Mo_unwind_68 : decode b_Mo_unwind 68 = .ok (.invokevirtual 970, 3) := by decide +kernel
theorem d_Mo_unwind_71 : decode b_Mo_unwind 71 = .ok (.aload_n 0, 1) := by decide +kernel
theorem d_Mo_unwind_72 : decode b_Mo_unwind 72 = .ok (.getfield 917, 3) := by decide +kernel
theorem d_Mo_unwind_75 : decode b_Mo_unwind 75 = .ok (.getfield 930, 3) := by decide +kernel
theorem d_Mo_unwind_78 : decode b_Mo_unwind 78 = .ok (.iload 4, 2) := by decide +kernel
theorem d_Mo_unwind_80 : decode b_Mo_unwind 80 = .ok (.aload_n 0, 1) := by decide +kernel
theorem d_Mo_unwind_81 : decode b_Mo_unwind 81 = .ok (.getfield 522, 3) := by decide +kernel
theorem d_Mo_unwind_84 : decode b_Mo_unwind 84 = .ok (.getfield 719, 3) := by decide +kernel
theorem d_Mo_unwind_87 : decode b_Mo_unwind 87 = .ok (.iload 5, 2) := by decide +kernel
theorem d_Mo_unwind_89 : decode b_Mo_unwind 89 = .ok (.iaload, 1) := by decide +kernel
theorem d_Mo_unwind_90 : decode b_Mo_unwind 90 = .ok (.iastore, 1) := by decide +kernel
theorem d_Mo_unwind_91 : decode b_Mo_unwind 91 = .ok (.aload_n 0, 1) := by decide +kernel
theorem d_Mo_unwind_92 : decode b_Mo_unwind 92 = .ok (.bipush 7, 2) := by decide +kernel
theorem d_Mo_unwind_94 : decode b_Mo_unwind 94 = .ok (.aload_n 0, 1) := by decide +kernel
theorem d_Mo_unwind_95 : decode b_Mo_unwind 95 = .ok (.getfield 917, 3) := by decide +kernel
theorem d_Mo_unwind_98 : decode b_Mo_unwind 98 = .ok (.getfield 927, 3) := by decide +kernel
theorem d_Mo_unwind_101 : decode b_Mo_unwind 101 = .ok (.iload 4, 2) := by decide +kernel
theorem d_Mo_unwind_103 : decode b_Mo_unwind 103 = .ok (.iaload, 1) := by decide +kernel
theorem d_Mo_unwind_104 : decode b_Mo_unwind 104 = .ok (.invokevirtual 951, 3) := by decide +kernel
theorem d_Mo_unwind_107 : decode b_Mo_unwind 107 = .ok (.return_, 1) := by decide +kernel
theorem d_Mo_unwind_108 : decode b_Mo_unwind 108 = .ok (.aload_n 0, 1) := by decide +kernel
theorem d_Mo_unwind_109 : decode b_Mo_unwind 109 = .ok (.getfield 917, 3) := by decide +kernel
theorem d_Mo_unwind_112 : decode b_Mo_unwind 112 = .ok (.dup, 1) := by decide +kernel
theorem d_Mo_unwind_113 : decode b_Mo_unwind 113 = .ok (.getfield 924, 3) := by decide +kernel
theorem d_Mo_unwind_116 : decode b_Mo_unwind 116 = .ok (.iconst 1, 1) := by decide +kernel
theorem d_Mo_unwind_117 : decode b_Mo_unwind 117 = .ok (.isub, 1) := by decide +kernel
theorem d_Mo_unwind_118 : decode b_Mo_unwind 118 = .ok (.putfield 924, 3) := by decide +kernel
theorem d_Mo_unwind_121 : decode b_Mo_unwind 121 = .ok (.aload_n 0, 1) := by decide +kernel
theorem d_Mo_unwind_122 : decode b_Mo_unwind 122 = .ok (.iconst 3, 1) := by decide +kernel
theorem d_Mo_unwind_123 : decode b_Mo_unwind 123 = .ok (.aload_n 0, 1) := by decide +kernel
theorem d_Mo_unwind_124 : decode b_Mo_unwind 124 = .ok (.getfield 917, 3) := by decide +kernel
theorem d_Mo_unwind_127 : decode b_Mo_unwind 127 = .ok (.getfield 927, 3) := by decide +kernel
theorem d_Mo_unwind_130 : decode b_Mo_unwind 130 = .ok (.iload 4, 2) := by decide +kernel
theorem d_Mo_unwind_132 : decode b_Mo_unwind 132 = .ok (.iaload, 1) := by decide +kernel
theorem d_Mo_unwind_133 : decode b_Mo_unwind 133 = .ok (.invokevirtual 951, 3) := by decide +kernel
theorem d_Mo_unwind_136 : decode b_Mo_unwind 136 = .ok (.goto 59, 3) := by decide +kernel
theorem d_Mo_unwind_139 : decode b_Mo_unwind 139 = .ok (.aload_n 0, 1) := by decide +kernel
theorem d_Mo_unwind_140 : decode b_Mo_unwind 140 = .ok (.getfield 522, 3) := by decide +kernel
theorem d_Mo_unwind_143 : decode b_Mo_unwind 143 = .ok (.getfield 441, 3) := by decide +kernel
theorem d_Mo_unwind_146 : decode b_Mo_unwind 146 = .ok (.iconst (-1), 1) := by decide +kernel
theorem d_Mo_unwind_147 : decode b_Mo_unwind 147 = .ok (.iload 4, 2) := by decide +kernel
theorem d_Mo_unwind_149 : decode b_Mo_unwind 149 = .ok (.isub, 1) := by decide +kernel
theorem d_Mo_unwind_150 : decode b_Mo_unwind 150 = .ok (.iconst 3, 1) := by decide +kernel
theorem d_Mo_unwind_151 : decode b_Mo_unwind 151 = .ok (.iastore, 1) := by decide +kernel
theorem d_Mo_unwind_152 : decode b_Mo_unwind 152 = .ok (.aload_n 0, 1) := by decide +kernel
theorem d_Mo_unwind_153 : decode b_Mo_unwind 153 = .ok (.bipush 6, 2) := by decide +kernel
theorem d_Mo_unwind_155 : decode b_Mo_unwind 155 = .ok (.iload 4, 2) := by decide +kernel
theorem d_Mo_unwind_157 : decode b_Mo_unwind 157 = .ok (.invokevirtual 951, 3) := by decide +kernel
theorem d_Mo_unwind_160 : decode b_Mo_unwind 160 = .ok (.aload_n 0, 1) := by decide +kernel
theorem d_Mo_unwind_161 : decode b_Mo_unwind 161 = .ok (.getfield 917, 3) := by decide +kernel
theorem d_Mo_unwind_164 : decode b_Mo_unwind 164 = .ok (.getfield 948, 3) := by decide +kernel
theorem d_Mo_unwind_167 : decode b_Mo_unwind 167 = .ok (.iload_n 3, 1) := by decide +kernel
theorem d_Mo_unwind_168 : decode b_Mo_unwind 168 = .ok (.iaload, 1) := by decide +kernel
theorem d_Mo_unwind_169 : decode b_Mo_unwind 169 = .ok (.iconst 2, 1) := by decide +kernel
theorem d_Mo_unwind_170 : decode b_Mo_unwind 170 = .ok (.if_icmp .ne 25, 3) := by decide +kernel
theorem d_Mo_unwind_173 : decode b_Mo_unwind 173 = .ok (.aload_n 0, 1) := by decide +kernel
theorem d_Mo_unwind_174 : decode b_Mo_unwind 174 = .ok (.aload_n 0, 1) := by decide +kernel
theorem d_Mo_unwind_175 : decode b_Mo_unwind 175 = .ok (.iload_n 2, 1) := by decide +kernel
theorem d_Mo_unwind_176 : decode b_Mo_unwind 176 = .ok (.invokevirtual 960, 3) := by decide +kernel
theorem d_Mo_unwind_179 : decode b_Mo_unwind 179 = .ok (.bipush 10, 2) := by decide +kernel
theorem d_Mo_unwind_181 : decode b_Mo_unwind 181 = .ok (.invokevirtual 963, 3) := by decide +kernel
theorem d_Mo_unwind_184 : decode b_Mo_unwind 184 = .ok (.ifCond .ne 11, 3) := by decide +kernel
theorem d_Mo_unwind_187 : decode b_Mo_unwind 187 = .ok (.aload_n 0, 1) := by decide +kernel
theorem d_Mo_unwind_188 : decode b_Mo_unwind 188 = .ok (.bipush 20, 2) := by decide +kernel
theorem d_Mo_unwind_190 : decode b_Mo_unwind 190 = .ok (.iconst 0, 1) := by decide +kernel
theorem d_Mo_unwind_191 : decode b_Mo_unwind 191 = .ok (.invokevirtual 954, 3) := by decide +kernel
theorem d_Mo_unwind_194 : decode b_Mo_unwind 194 = .ok (.istore_n 2, 1) := by decide +kernel
theorem d_Mo_unwind_195 : decode b_Mo_unwind 195 = .ok (.aload_n 0, 1) := by decide +kernel
theorem d_Mo_unwind_196 : decode b_Mo_unwind 196 = .ok (.getfield 917, 3) := by decide +kernel
theorem d_Mo_unwind_199 : decode b_Mo_unwind 199 = .ok (.dup, 1) := by decide +kernel
theorem d_Mo_unwind_200 : decode b_Mo_unwind 200 = .ok (.getfield 945, 3) := by decide +kernel
theorem d_Mo_unwind_203 : decode b_Mo_unwind 203 = .ok (.iconst 1, 1) := by decide +kernel
theorem d_Mo_unwind_204 : decode b_Mo_unwind 204 = .ok (.isub, 1) := by decide +kernel
theorem d_Mo_unwind_205 : decode b_Mo_unwind 205 = .ok (.putfield 945, 3) := by decide +kernel
theorem d_Mo_unwind_208 : decode b_Mo_unwind 208 = .ok (.goto (-206), 3) := by decide +kernel
theorem d_Mo_unwind_211 : decode b_Mo_unwind 211 = .ok (.aload_n 0, 1) := by decide +kernel
theorem d_Mo_unwind_212 : decode b_Mo_unwind 212 = .ok (.getfield 917, 3) := by decide +kernel
theorem d_Mo_unwind_215 : decode b_Mo_unwind 215 = .ok (.iconst 2, 1) := by decide +kernel
theorem d_Mo_unwind_216 : decode b_Mo_unwind 216 = .ok (.putfield 486, 3) := by decide +kernel
theorem d_Mo_unwind_219 : decode b_Mo_unwind 219 = .ok (.aload_n 0, 1) := by decide +kernel
theorem d_Mo_unwind_220 : decode b_Mo_unwind 220 = .ok (.getfield 917, 3) := by decide +kernel
theorem d_Mo_unwind_223 : decode b_Mo_unwind 223 = .ok (.iconst 0, 1) := by decide +kernel
theorem d_Mo_unwind_224 : decode b_Mo_unwind 224 = .ok (.putfield 974, 3) := by decide +kernel
theorem d_Mo_unwind_227 : decode b_Mo_unwind 227 = .ok (.aload_n 0, 1) := by decide +kernel
theorem d_Mo_unwind_228 : decode b_Mo_unwind 228 = .ok (.getfield 917, 3) := by decide +kernel
theorem d_Mo_unwind_231 : decode b_Mo_unwind 231 = .ok (.iconst 0, 1) := by decide +kernel
theorem d_Mo_unwind_232 : decode b_Mo_unwind 232 = .ok (.putfield 977, 3) := by decide +kernel
theorem d_Mo_unwind_235 : decode b_Mo_unwind 235 = .ok (.aload_n 0, 1) := by decide +kernel
theorem d_Mo_unwind_236 : decode b_Mo_unwind 236 = .ok (.getfield 917, 3) := by decide +kernel
theorem d_Mo_unwind_239 : decode b_Mo_unwind 239 = .ok (.aload_n 0, 1) := by decide +kernel
theorem d_Mo_unwind_240 : decode b_Mo_unwind 240 = .ok (.iload_n 2, 1) := by decide +kernel
theorem d_Mo_unwind_241 : decode b_Mo_unwind 241 = .ok (.invokevirtual 960, 3) := by decide +kernel
theorem d_Mo_unwind_244 : decode b_Mo_unwind 244 = .ok (.putfield 980, 3) := by decide +kernel
theorem d_Mo_unwind_247 : decode b_Mo_unwind 247 = .ok (.aload_n 0, 1) := by decide +kernel
theorem d_Mo_unwind_248 : decode b_Mo_unwind 248 = .ok (.getfield 917, 3) := by decide +kernel
theorem d_Mo_unwind_251 : decode b_Mo_unwind 251 = .ok (.iload_n 2, 1) := by decide +kernel
theorem d_Mo_unwind_252 : decode b_Mo_unwind 252 = .ok (.sipush 1001, 3) := by decide +kernel
theorem d_Mo_unwind_255 : decode b_Mo_unwind 255 = .ok (.if_icmp .lt 19, 3) := by decide +kernel
theorem d_Mo_unwind_258 : decode b_Mo_unwind 258 = .ok (.aload_n 0, 1) := by decide +kernel
theorem d_Mo_unwind_259 : decode b_Mo_unwind 259 = .ok (.getfield 522, 3) := by decide +kernel
theorem d_Mo_unwind_262 : decode b_Mo_unwind 262 = .ok (.getfield 875, 3) := by decide +kernel
theorem d_Mo_unwind_265 : decode b_Mo_unwind 265 = .ok (.iload_n 2, 1) := by decide +kernel
theorem d_Mo_unwind_266 : decode b_Mo_unwind 266 = .ok (.sipush 1001, 3) := by decide +kernel
theorem d_Mo_unwind_269 : decode b_Mo_unwind 269 = .ok (.isub, 1) := by decide +kernel
theorem d_Mo_unwind_270 : decode b_Mo_unwind 270 = .ok (.iaload, 1) := by decide +kernel
theorem d_Mo_unwind_271 : decode b_Mo_unwind 271 = .ok (.goto 4, 3) := by decide +kernel
theorem d_Mo_unwind_274 : decode b_Mo_unwind 274 = .ok (.iconst 0, 1) := by decide +kernel
theorem d_Mo_unwind_275 : decode b_Mo_unwind 275 = .ok (.putfield 983, 3) := by decide +kernel
theorem d_Mo_unwind_278 : decode b_Mo_unwind 278 = .ok (.return_, 1) := by decide +kernel
abbrev ra_Mo_unwind (mc ms : Nat) : Room := { frames := 6, cells := mc, slots := ms, locals := 173 }
def wja_Mo_unwind_275 (mc ms : Nat) (Post : Ly → St → Nat → Nat → Prop) (a0 : Nat) (y_j275 : Ly) (s_j275 : St) (d_j275 e_j275 : Nat) (z0j275 : Nat) (z1j275 : Int32) : Prop := (d_j275 ≤ mc ∧ e_j275 ≤ ms) ∧ cl z0j275 = 12 ∧ xP (uV s_j275 z0j275 13 z1j275) (fun s_22 : St => Post y_j275 s_22 d_j275 e_j275)
def wja_Mo_unwind_195 (mc ms : Nat) (Post : Ly → St → Nat → Nat → Prop) (K_2 : Ly → St → Nat → Nat → Int32 → Prop) (a0 : Nat) (y_j195 : Ly) (s_j195 : St) (d_j195 e_j195 : Nat) (x2j195 : Int32) : Prop := (d_j195 ≤ mc ∧ e_j195 ≤ ms) ∧ ∃ b_28 : Nat, sO s_j195 a0 46 = some b_28 ∧ cl b_28 = 12 ∧ xP (uV s_j195 b_28 16 ((sV s_j195 b_28 16) - 1)) (fun s_31 : St => K_2 y_j195 s_31 d_j195 e_j195 x2j195)
def wba_Mo_unwind_2 (mc ms : Nat) (Post : Ly → St → Nat → Nat → Prop) (K_2 : Ly → St → Nat → Nat → Int32 → Prop) (a0 : Nat) (y_h2 : Ly) (s_h2 : St) (d_h2 e_h2 : Nat) (x2h2 : Int32) : Prop := (d_h2 ≤ mc ∧ e_h2 ≤ ms) ∧ ∃ b_1 : Nat, sO s_h2 a0 46 = some b_1 ∧ cl b_1 = 12 ∧ (((sV s_h2 b_1 16) ≤ 0 → xP (uV s_h2 b_1 0 2) (fun s_4 : St => ∃ b_5 : Nat, sO s_4 a0 46 = some b_5 ∧ cl b_5 = 12 ∧ xP (uV s_4 b_5 10 0) (fun s_8 : St => ∃ b_9 : Nat, sO s_8 a0 46 = some b_9 ∧ cl b_9 = 12 ∧ xP (uV s_8 b_9 11 0) (fun s_12 : St => ∃ b_13 : Nat, sO s_12 a0 46 = some b_13 ∧ cl b_13 = 12 ∧ wu_Mo_classOfRef y_h2 (fun (s_17 : St) (r_16 : Int32) => xP (uV s_17 b_13 12 r_16) (fun s_18 : St => ∃ b_19 : Nat, sO s_18 a0 46 = some b_19 ∧ cl b_19 = 12 ∧ ((x2h2 < 1001 → wja_Mo_unwind_275 mc ms Post a0 y_h2 s_18 d_h2 e_h2 b_19 0) ∧ (¬ (x2h2 < 1001) → ∃ b_23 : Nat, sO s_18 a0 45 = some b_23 ∧ cl b_23 = 13 ∧ xA y_h2 s_18 b_23 54 (x2h2 - 1001) (fun x_26 : Int32 => wja_Mo_unwind_275 mc ms Post a0 y_h2 s_18 d_h2 e_h2 b_19 x_26))))) s_12 a0 x2h2)))) ∧ (¬ ((sV s_h2 b_1 16) ≤ 0) → xA y_h2 s_h2 b_1 14 ((sV s_h2 b_1 16) - 1) (fun x_27 : Int32 => ((x_27 < 0 → ∃ b_32 : Nat, sO s_h2 a0 45 = some b_32 ∧ cl b_32 = 13 ∧ xS y_h2 s_h2 b_32 10 ((-1) - x_27) 3 (fun s_35 : St => wu_Mo_note y_h2 (fun (s_37 : St) => ∃ b_38 : Nat, sO s_37 a0 46 = some b_38 ∧ cl b_38 = 12 ∧ xA y_h2 s_37 b_38 15 ((sV s_h2 b_1 16) - 1) (fun x_41 : Int32 => ((¬ x_41 = 2 → wja_Mo_unwind_195 mc ms Post K_2 a0 y_h2 s_37 d_h2 e_h2 x2h2) ∧ (x_41 = 2 → wu_Mo_classOfRef y_h2 (fun (s_43 : St) (r_42 : Int32) => wu_Mo_isBelow y_h2 (fun (s_45 : St) (r_44 : Int32) => ((¬ r_44 = 0 → wja_Mo_unwind_195 mc ms Post K_2 a0 y_h2 s_45 d_h2 e_h2 x2h2) ∧ (r_44 = 0 → ∃ mc_51 ms_52 : Nat, (d_h2 + mc_51 ≤ mc ∧ e_h2 + ms_52 ≤ ms) ∧ wa_Mo_newFault mc_51 ms_52 y_h2 (fun (y_48 : Ly) (s_47 : St) (r_46 : Int32) (d_49 e_50 : Nat) => (d_h2 + d_49 ≤ mc ∧ e_h2 + e_50 ≤ ms) ∧ wja_Mo_unwind_195 mc ms Post K_2 a0 y_48 s_47 (d_h2 + d_49) (e_h2 + e_50) r_46) s_45 a0 20 0))) s_43 a0 r_42 10) s_37 a0 x2h2)))) s_35 a0 6 x_27)) ∧ (¬ (x_27 < 0) → wu_Mo_handlerOf y_h2 (fun (s_55 : St) (r_54 : Int32) => ((r_54 < 0 → ∃ b_56 : Nat, sO s_55 a0 46 = some b_56 ∧ cl b_56 = 12 ∧ xP (uV s_55 b_56 22 ((sV s_55 b_56 22) - 1)) (fun s_59 : St => ∃ b_60 : Nat, sO s_59 a0 46 = some b_60 ∧ cl b_60 = 12 ∧ xA y_h2 s_59 b_60 17 x_27 (fun x_63 : Int32 => wu_Mo_note y_h2 (fun (s_65 : St) => wja_Mo_unwind_195 mc ms Post K_2 a0 y_h2 s_65 d_h2 e_h2 x2h2) s_59 a0 3 x_63))) ∧ (¬ (r_54 < 0) → ∃ b_66 : Nat, sO s_55 a0 46 = some b_66 ∧ cl b_66 = 12 ∧ xS y_h2 s_55 b_66 19 x_27 0 (fun s_69 : St => wu_Mo_push y_h2 (fun (s_71 : St) => ∃ b_72 : Nat, sO s_71 a0 46 = some b_72 ∧ cl b_72 = 12 ∧ ∃ b_75 : Nat, sO s_71 a0 45 = some b_75 ∧ cl b_75 = 13 ∧ xA y_h2 s_71 b_75 28 r_54 (fun x_78 : Int32 => xS y_h2 s_71 b_72 18 x_27 x_78 (fun s_79 : St => ∃ b_80 : Nat, sO s_79 a0 46 = some b_80 ∧ cl b_80 = 12 ∧ xA y_h2 s_79 b_80 17 x_27 (fun x_83 : Int32 => wu_Mo_note y_h2 (fun (s_85 : St) => Post y_h2 s_85 d_h2 e_h2) s_79 a0 7 x_83)))) s_69 a0 x_27 x2h2 1)))) s_h2 a0 x_27 x2h2)))))
def wla_Mo_unwind_2 (mc ms : Nat) (Post : Ly → St → Nat → Nat → Prop) (a0 : Nat) (y_h2 : Ly) (s_h2 : St) (d_h2 e_h2 : Nat) (x2h2 : Int32) : Prop := ∃ (I : Ly → St → Nat → Nat → Int32 → Prop) (μ : Ly → St → Nat → Nat → Int32 → Nat), I y_h2 s_h2 d_h2 e_h2 x2h2 ∧ ∀ (u1 : Ly) (u2 : St) (u3 u4 : Nat) (t0 : Int32), I u1 u2 u3 u4 t0 → wba_Mo_unwind_2 mc ms Post (fun z1 z2 z3 z4 t0q => I z1 z2 z3 z4 t0q ∧ μ z1 z2 z3 z4 t0q < μ u1 u2 u3 u4 t0) a0 u1 u2 u3 u4 t0
def wa_Mo_unwind (mc ms : Nat) (y : Ly) (Post : Ly → St → Nat → Nat → Prop) (σ : St) (a0 : Nat) (v1 : Int32) : Prop := wla_Mo_unwind_2 mc ms Post a0 y σ 0 0 v1
set_option maxHeartbeats 4000000 in
set_option maxRecDepth 100000 in
theorem ca_Mo_unwind (l : Launch) (D : va_G) (g : Nat → ClassId) (ad : Nat → Nat) (mc ms : Nat) (y : Ly) (Post : Ly → St → Nat → Nat → Prop) (σ : St) (a0 : Nat) (v1 : Int32) (sz uz : Nat) (h_a0 : cl a0 = 14) (h : wa_Mo_unwind mc ms y Post σ a0 v1) : Met l y_Mo_unwind (mw y_Mo_unwind b_Mo_unwind 6 (none)) (ra_Mo_unwind mc ms) (PCu g D [] [.ref (ad a0), .int v1] sz uz (ws g ad y σ)) (va_Qv (fun (u : Ly × St × Nat × Nat) => Post u.1 u.2.1 u.2.2.1 u.2.2.2) (QU D (va_A (ws g ad y σ) sz) (fun u => ws g ad u.1 u.2.1) sz uz (fun u => u.2.2.1) (fun u => u.2.2.2)) (va_A (ws g ad y σ) sz)) mc ms (va_A (ws g ad y σ) sz) := by
  refine ofVu (by decide +kernel) (Nat.le_of_ble_eq_true rfl) ?_
  intro p e s m args below meth c A Q ls H locs G hsz hP hD hS hl hret
  subst hsz
  have hl : lv_has ls 6 [(0, .ref (ad a0)), (1, .int v1)] := hl
  have hd : 0 ≤ mc ∧ 0 ≤ ms := ⟨Nat.zero_le _, Nat.zero_le _⟩
  unfold wa_Mo_unwind at h
  refine lv_iload_n G.1 G.2.1 d_Mo_unwind_0 rfl (lv_at hl 1 rfl) ?_
  refine lv_istore_n (lv' := [(2, .int v1), (0, .ref (ad a0)), (1, .int v1)]) G.1 G.2.1 d_Mo_unwind_1 rfl hl (by decide) rfl (fun ls hl => ?_)
  unfold wla_Mo_unwind_2 at h
  obtain ⟨I_2, μ_2, hI_2, hB_2⟩ := h
  have L_2 : ∀ (n_2 : Nat) (y_h2 : Ly) (s_h2 : St) (d_h2 e_h2 : Nat) (x2h2 : Int32), μ_2 y_h2 s_h2 d_h2 e_h2 x2h2 < n_2 → I_2 y_h2 s_h2 d_h2 e_h2 x2h2 → ∀ (H : Heap) (locs : List Loc), va_P D CL (ws g ad y_h2 s_h2) H → va_D A (ws g ad y_h2 s_h2) → va_S A s.heap H locs → ∀ ls, lv_has ls 6 [(0, .ref (ad a0)), (2, .int x2h2)] → W p l e (ra_Mo_unwind mc ms) s m args below meth c H locs d_h2 e_h2 Q (F0 m 2 ls []) := by
    intro n_2
    induction n_2 with
    | zero => intro y_h2 s_h2 d_h2 e_h2 x2h2 hμ; exact absurd hμ (Nat.not_lt_zero _)
    | succ n_2 ih_2 =>
      intro y_h2 s_h2 d_h2 e_h2 x2h2 hμ_2 hJ H locs hP hD hS ls hl
      obtain ⟨K_2, hK_2, h⟩ : ∃ K : Ly → St → Nat → Nat → Int32 → Prop, (∀ z1 z2 z3 z4 (t0 : Int32), K z1 z2 z3 z4 t0 → I_2 z1 z2 z3 z4 t0 ∧ μ_2 z1 z2 z3 z4 t0 < μ_2 y_h2 s_h2 d_h2 e_h2 x2h2) ∧ wba_Mo_unwind_2 mc ms Post K a0 y_h2 s_h2 d_h2 e_h2 x2h2 := ⟨_, fun _ _ _ _ _ h => h, hB_2 y_h2 s_h2 d_h2 e_h2 x2h2 hJ⟩
      unfold wba_Mo_unwind_2 at h
      obtain ⟨hd, h⟩ := h
      refine lv_aload_n G.1 G.2.1 d_Mo_unwind_2 rfl (lv_at hl 0 rfl) ?_
      obtain ⟨b_1, e_2, c_3, h⟩ := h
      refine ugf (v := .ref (ad b_1)) G hP h_a0 iMo rfl 46 (by decide) rfl q3110 rfl (by show va_rf ((sO s_h2 a0 46).map ad) = _; rw [e_2]; rfl) d_Mo_unwind_3 ?_
      refine ugfN (v := .int (sV s_h2 b_1 16)) G hP c_3 iMr rfl 16 (by decide) rfl q3005 rfl rfl d_Mo_unwind_6 ?_
      refine lv_if_le (tgt := 211) G.1 G.2.1 d_Mo_unwind_9 (by decide) (fun c9 => ?_) (fun c9 => ?_)
      · skip
        have h := h.1 c9
        refine lv_aload_n G.1 G.2.1 d_Mo_unwind_211 rfl (lv_at hl 0 rfl) ?_
        refine ugf (v := .ref (ad b_1)) G hP h_a0 iMo rfl 46 (by decide) rfl q3110 rfl (by show va_rf ((sO s_h2 a0 46).map ad) = _; rw [e_2]; rfl) d_Mo_unwind_212 ?_
        refine lv_iconst (v := 2) G.1 G.2.1 d_Mo_unwind_215 (by decide) ?_
        refine upfN G hP hD hS h 0 putV c_3 iMr tMr tMr_ok nMr rfl (by decide) rfl q2987 rfl rfl fV rfl rfl d_Mo_unwind_216 (fun s_4 H locs h hP hD hS => ?_)
        refine lv_aload_n G.1 G.2.1 d_Mo_unwind_219 rfl (lv_at hl 0 rfl) ?_
        obtain ⟨b_5, e_6, c_7, h⟩ := h
        refine ugf (v := .ref (ad b_5)) G hP h_a0 iMo rfl 46 (by decide) rfl q3110 rfl (by show va_rf ((sO s_4 a0 46).map ad) = _; rw [e_6]; rfl) d_Mo_unwind_220 ?_
        refine lv_iconst (v := 0) G.1 G.2.1 d_Mo_unwind_223 (by decide) ?_
        refine W.eq (g2 := F0 m 224 ls [.int 0, .ref (ad b_5)]) rfl ?_
        refine upfN G hP hD hS h 10 putV c_7 iMr tMr tMr_ok nMr rfl (by decide) rfl q2997 rfl rfl fV rfl rfl d_Mo_unwind_224 (fun s_8 H locs h hP hD hS => ?_)
        refine lv_aload_n G.1 G.2.1 d_Mo_unwind_227 rfl (lv_at hl 0 rfl) ?_
        obtain ⟨b_9, e_10, c_11, h⟩ := h
        refine ugf (v := .ref (ad b_9)) G hP h_a0 iMo rfl 46 (by decide) rfl q3110 rfl (by show va_rf ((sO s_8 a0 46).map ad) = _; rw [e_10]; rfl) d_Mo_unwind_228 ?_
        refine lv_iconst (v := 0) G.1 G.2.1 d_Mo_unwind_231 (by decide) ?_
        refine upfN G hP hD hS h 11 putV c_11 iMr tMr tMr_ok nMr rfl (by decide) rfl q2998 rfl rfl fV rfl rfl d_Mo_unwind_232 (fun s_12 H locs h hP hD hS => ?_)
        refine lv_aload_n G.1 G.2.1 d_Mo_unwind_235 rfl (lv_at hl 0 rfl) ?_
        obtain ⟨b_13, e_14, c_15, h⟩ := h
        refine ugf (v := .ref (ad b_13)) G hP h_a0 iMo rfl 46 (by decide) rfl q3110 rfl (by show va_rf ((sO s_12 a0 46).map ad) = _; rw [e_14]; rfl) d_Mo_unwind_236 ?_
        refine lv_aload_n G.1 G.2.1 d_Mo_unwind_239 rfl (lv_at hl 0 rfl) ?_
        refine lv_iload_n G.1 G.2.1 d_Mo_unwind_240 rfl (lv_at hl 1 rfl) ?_
        refine ucVi (As := [.int x2h2]) (rest := [.ref (ad b_13)]) G hP hD hS (cu_Mo_classOfRef l D g ad y_h2 _ s_12 a0 x2h2 H.size h_a0 h) w9_Mo_classOfRef q3899 ⟨Nat.le_of_ble_eq_true rfl, Nat.le_of_ble_eq_true rfl⟩ rfl rfl h_a0 (q := (RMo, TMo, 131)) rfl rfl hl.1 rfl (Nat.le_of_ble_eq_true rfl) rfl hd d_Mo_unwind_241 (fun r_16 s_17 H locs h hP hD hS => ?_)
        refine upfN G hP hD hS h 12 putV c_15 iMr tMr tMr_ok nMr rfl (by decide) rfl q2999 rfl rfl fV rfl rfl d_Mo_unwind_244 (fun s_18 H locs h hP hD hS => ?_)
        refine lv_aload_n G.1 G.2.1 d_Mo_unwind_247 rfl (lv_at hl 0 rfl) ?_
        refine W.eq (g2 := F0 m 248 ls [.ref (ad a0)]) rfl ?_
        obtain ⟨b_19, e_20, c_21, h⟩ := h
        refine ugf (v := .ref (ad b_19)) G hP h_a0 iMo rfl 46 (by decide) rfl q3110 rfl (by show va_rf ((sO s_18 a0 46).map ad) = _; rw [e_20]; rfl) d_Mo_unwind_248 ?_
        refine lv_iload_n G.1 G.2.1 d_Mo_unwind_251 rfl (lv_at hl 1 rfl) ?_
        refine lv_sipush (v := 1001) G.1 G.2.1 d_Mo_unwind_252 (by decide) ?_
        have J_275 : ∀ (y_j275 : Ly) (s_j275 : St) (d_j275 e_j275 : Nat) (z0j275 : Nat) (z1j275 : Int32) (H : Heap) (locs : List Loc), wja_Mo_unwind_275 mc ms Post a0 y_j275 s_j275 d_j275 e_j275 z0j275 z1j275 → va_P D CL (ws g ad y_j275 s_j275) H → va_D A (ws g ad y_j275 s_j275) → va_S A s.heap H locs → ∀ ls, lv_has ls 6 [] → W p l e (ra_Mo_unwind mc ms) s m args below meth c H locs d_j275 e_j275 Q (F0 m 275 ls [.int z1j275, .ref (ad z0j275)]) := by
          intro y_j275 s_j275 d_j275 e_j275 z0j275 z1j275 H locs h hP hD hS ls hl
          unfold wja_Mo_unwind_275 at h
          obtain ⟨hd, h⟩ := h
          obtain ⟨c_z0j275, h⟩ := h
          refine upfN G hP hD hS h 13 putV c_z0j275 iMr tMr tMr_ok nMr rfl (by decide) rfl q3000 rfl rfl fV rfl rfl d_Mo_unwind_275 (fun s_22 H locs h hP hD hS => ?_)
          exact hret (y_j275, s_22, d_j275, e_j275) _ _ _ _ _ ls h hP hD hS (Nat.le_refl _) (Nat.le_refl _) hd.1 hd.2 d_Mo_unwind_278
        refine lv_icmp_lt (tgt := 274) G.1 G.2.1 d_Mo_unwind_255 (by decide) (fun c255 => ?_) (fun c255 => ?_)
        · skip
          have h := h.1 c255
          refine lv_iconst (v := 0) G.1 G.2.1 d_Mo_unwind_274 (by decide) ?_
          exact J_275 y_h2 s_18 d_h2 e_h2 b_19 0 H locs h hP hD hS ls (lv_sub hl [] rfl)
        · skip
          have h := h.2 c255
          refine lv_aload_n G.1 G.2.1 d_Mo_unwind_258 rfl (lv_at hl 0 rfl) ?_
          obtain ⟨b_23, e_24, c_25, h⟩ := h
          refine ugf (v := .ref (ad b_23)) G hP h_a0 iMo rfl 45 (by decide) rfl q3109 rfl (by show va_rf ((sO s_18 a0 45).map ad) = _; rw [e_24]; rfl) d_Mo_unwind_259 ?_
          refine ugfN (v := .ref (yP y_h2 b_23 54)) G hP c_25 iMw rfl 54 (by decide) rfl q2806 rfl rfl d_Mo_unwind_262 ?_
          refine lv_iload_n G.1 G.2.1 d_Mo_unwind_265 rfl (lv_at hl 1 rfl) ?_
          refine lv_sipush (v := 1001) G.1 G.2.1 d_Mo_unwind_266 (by decide) ?_
          refine lv_isub G.1 G.2.1 d_Mo_unwind_269 ?_
          refine uiald G hP (kdp c_25 rfl) (typ c_25 rfl) h d_Mo_unwind_270 (fun x_26 h => ?_)
          refine lv_goto (tgt := 275) G.1 G.2.1 d_Mo_unwind_271 (by decide) ?_
          exact J_275 y_h2 s_18 d_h2 e_h2 b_19 x_26 H locs h hP hD hS ls (lv_sub hl [] rfl)
      · skip
        have h := h.2 c9
        refine lv_aload_n G.1 G.2.1 d_Mo_unwind_12 rfl (lv_at hl 0 rfl) ?_
        refine ugf (v := .ref (ad b_1)) G hP h_a0 iMo rfl 46 (by decide) rfl q3110 rfl (by show va_rf ((sO s_h2 a0 46).map ad) = _; rw [e_2]; rfl) d_Mo_unwind_13 ?_
        refine ugfN (v := .int (sV s_h2 b_1 16)) G hP c_3 iMr rfl 16 (by decide) rfl q3005 rfl rfl d_Mo_unwind_16 ?_
        refine lv_iconst (v := 1) G.1 G.2.1 d_Mo_unwind_19 (by decide) ?_
        refine lv_isub G.1 G.2.1 d_Mo_unwind_20 ?_
        refine lv_istore_n (lv' := [(3, .int ((sV s_h2 b_1 16) - 1)), (0, .ref (ad a0)), (2, .int x2h2)]) G.1 G.2.1 d_Mo_unwind_21 rfl hl (by decide) rfl (fun ls hl => ?_)
        refine lv_aload_n G.1 G.2.1 d_Mo_unwind_22 rfl (lv_at hl 1 rfl) ?_
        refine W.eq (g2 := F0 m 23 ls [.ref (ad a0)]) rfl ?_
        refine ugf (v := .ref (ad b_1)) G hP h_a0 iMo rfl 46 (by decide) rfl q3110 rfl (by show va_rf ((sO s_h2 a0 46).map ad) = _; rw [e_2]; rfl) d_Mo_unwind_23 ?_
        refine ugfN (v := .ref (yP y_h2 b_1 14)) G hP c_3 iMr rfl 14 (by decide) rfl q3002 rfl rfl d_Mo_unwind_26 ?_
        refine lv_iload_n G.1 G.2.1 d_Mo_unwind_29 rfl (lv_at hl 0 rfl) ?_
        refine uiald G hP (kdp c_3 rfl) (typ c_3 rfl) h d_Mo_unwind_30 (fun x_27 h => ?_)
        refine lv_istore (lv' := [(4, .int x_27), (3, .int ((sV s_h2 b_1 16) - 1)), (0, .ref (ad a0)), (2, .int x2h2)]) G.1 G.2.1 d_Mo_unwind_31 hl (by decide) rfl (fun ls hl => ?_)
        refine lv_iload G.1 G.2.1 d_Mo_unwind_33 (lv_at hl 0 rfl) ?_
        have J_195 : ∀ (y_j195 : Ly) (s_j195 : St) (d_j195 e_j195 : Nat) (x2j195 : Int32) (H : Heap) (locs : List Loc), wja_Mo_unwind_195 mc ms Post K_2 a0 y_j195 s_j195 d_j195 e_j195 x2j195 → va_P D CL (ws g ad y_j195 s_j195) H → va_D A (ws g ad y_j195 s_j195) → va_S A s.heap H locs → ∀ ls, lv_has ls 6 [(0, .ref (ad a0)), (2, .int x2j195)] → W p l e (ra_Mo_unwind mc ms) s m args below meth c H locs d_j195 e_j195 Q (F0 m 195 ls []) := by
          intro y_j195 s_j195 d_j195 e_j195 x2j195 H locs h hP hD hS ls hl
          unfold wja_Mo_unwind_195 at h
          obtain ⟨hd, h⟩ := h
          refine lv_aload_n G.1 G.2.1 d_Mo_unwind_195 rfl (lv_at hl 0 rfl) ?_
          obtain ⟨b_28, e_29, c_30, h⟩ := h
          refine ugf (v := .ref (ad b_28)) G hP h_a0 iMo rfl 46 (by decide) rfl q3110 rfl (by show va_rf ((sO s_j195 a0 46).map ad) = _; rw [e_29]; rfl) d_Mo_unwind_196 ?_
          refine lv_dup G.1 G.2.1 d_Mo_unwind_199 rfl ?_
          refine ugfN (v := .int (sV s_j195 b_28 16)) G hP c_30 iMr rfl 16 (by decide) rfl q3005 rfl rfl d_Mo_unwind_200 ?_
          refine lv_iconst (v := 1) G.1 G.2.1 d_Mo_unwind_203 (by decide) ?_
          refine lv_isub G.1 G.2.1 d_Mo_unwind_204 ?_
          refine upfN G hP hD hS h 16 putV c_30 iMr tMr tMr_ok nMr rfl (by decide) rfl q3005 rfl rfl fV rfl rfl d_Mo_unwind_205 (fun s_31 H locs h hP hD hS => ?_)
          refine lv_goto (tgt := 2) G.1 G.2.1 d_Mo_unwind_208 (by decide) ?_
          have h := hK_2 y_j195 s_31 d_j195 e_j195 x2j195 h
          exact ih_2 y_j195 s_31 d_j195 e_j195 x2j195 (Nat.lt_of_lt_of_le h.2 (Nat.le_of_lt_succ hμ_2)) h.1 H locs hP hD hS ls (lv_sub hl [0, 1] rfl)
        refine lv_if_lt (tgt := 139) G.1 G.2.1 d_Mo_unwind_35 (by decide) (fun c35 => ?_) (fun c35 => ?_)
        · skip
          have h := h.1 c35
          refine lv_aload_n G.1 G.2.1 d_Mo_unwind_139 rfl (lv_at hl 2 rfl) ?_
          obtain ⟨b_32, e_33, c_34, h⟩ := h
          refine ugf (v := .ref (ad b_32)) G hP h_a0 iMo rfl 45 (by decide) rfl q3109 rfl (by show va_rf ((sO s_h2 a0 45).map ad) = _; rw [e_33]; rfl) d_Mo_unwind_140 ?_
          refine ugfN (v := .ref (yP y_h2 b_32 10)) G hP c_34 iMw rfl 10 (by decide) rfl q2724 rfl rfl d_Mo_unwind_143 ?_
          refine lv_iconst (v := (-1)) G.1 G.2.1 d_Mo_unwind_146 (by decide) ?_
          refine lv_iload G.1 G.2.1 d_Mo_unwind_147 (lv_at hl 0 rfl) ?_
          refine W.eq (g2 := F0 m 149 ls [.int x_27, .int (-1), .ref (yP y_h2 b_32 10)]) rfl ?_
          refine lv_isub G.1 G.2.1 d_Mo_unwind_149 ?_
          refine lv_iconst (v := 3) G.1 G.2.1 d_Mo_unwind_150 (by decide) ?_
          refine uiast G hP hD hS (kdp c_34 rfl) (typ c_34 rfl) h d_Mo_unwind_151 (fun s_35 H locs h hP hD hS => ?_)
          refine lv_aload_n G.1 G.2.1 d_Mo_unwind_152 rfl (lv_at hl 2 rfl) ?_
          refine lv_bipush (v := 6) G.1 G.2.1 d_Mo_unwind_153 (by decide) ?_
          refine lv_iload G.1 G.2.1 d_Mo_unwind_155 (lv_at hl 0 rfl) ?_
          refine ucVv (As := [.int 6, .int x_27]) (rest := []) G hP hD hS (cu_Mo_note l D g ad y_h2 _ s_35 a0 6 x_27 H.size h_a0 h) w9_Mo_note q3879 ⟨Nat.le_of_ble_eq_true rfl, Nat.le_of_ble_eq_true rfl⟩ rfl rfl h_a0 (q := (RMo, TMo, 131)) rfl rfl hl.1 rfl (Nat.le_of_ble_eq_true rfl) rfl hd d_Mo_unwind_157 (fun s_37 H locs h hP hD hS => ?_)
          refine lv_aload_n G.1 G.2.1 d_Mo_unwind_160 rfl (lv_at hl 2 rfl) ?_
          obtain ⟨b_38, e_39, c_40, h⟩ := h
          refine ugf (v := .ref (ad b_38)) G hP h_a0 iMo rfl 46 (by decide) rfl q3110 rfl (by show va_rf ((sO s_37 a0 46).map ad) = _; rw [e_39]; rfl) d_Mo_unwind_161 ?_
          refine ugfN (v := .ref (yP y_h2 b_38 15)) G hP c_40 iMr rfl 15 (by decide) rfl q3004 rfl rfl d_Mo_unwind_164 ?_
          refine lv_iload_n G.1 G.2.1 d_Mo_unwind_167 rfl (lv_at hl 1 rfl) ?_
          refine uiald G hP (kdp c_40 rfl) (typ c_40 rfl) h d_Mo_unwind_168 (fun x_41 h => ?_)
          refine W.eq (g2 := F0 m 169 ls [.int x_41]) rfl ?_
          refine lv_iconst (v := 2) G.1 G.2.1 d_Mo_unwind_169 (by decide) ?_
          refine lv_icmp_ne (tgt := 195) G.1 G.2.1 d_Mo_unwind_170 (by decide) (fun c170 => ?_) (fun c170 => ?_)
          · skip
            have h := h.1 c170
            exact J_195 y_h2 s_37 d_h2 e_h2 x2h2 H locs h hP hD hS ls (lv_sub hl [2, 3] rfl)
          · skip
            have h := h.2 c170
            refine lv_aload_n G.1 G.2.1 d_Mo_unwind_173 rfl (lv_at hl 2 rfl) ?_
            refine lv_aload_n G.1 G.2.1 d_Mo_unwind_174 rfl (lv_at hl 2 rfl) ?_
            refine lv_iload_n G.1 G.2.1 d_Mo_unwind_175 rfl (lv_at hl 3 rfl) ?_
            refine ucVi (As := [.int x2h2]) (rest := [.ref (ad a0)]) G hP hD hS (cu_Mo_classOfRef l D g ad y_h2 _ s_37 a0 x2h2 H.size h_a0 h) w9_Mo_classOfRef q3899 ⟨Nat.le_of_ble_eq_true rfl, Nat.le_of_ble_eq_true rfl⟩ rfl rfl h_a0 (q := (RMo, TMo, 131)) rfl rfl hl.1 rfl (Nat.le_of_ble_eq_true rfl) rfl hd d_Mo_unwind_176 (fun r_42 s_43 H locs h hP hD hS => ?_)
            refine lv_bipush (v := 10) G.1 G.2.1 d_Mo_unwind_179 (by decide) ?_
            refine ucVi (As := [.int r_42, .int 10]) (rest := []) G hP hD hS (cu_Mo_isBelow l D g ad y_h2 _ s_43 a0 r_42 10 H.size h_a0 h) w9_Mo_isBelow q3903 ⟨Nat.le_of_ble_eq_true rfl, Nat.le_of_ble_eq_true rfl⟩ rfl rfl h_a0 (q := (RMo, TMo, 131)) rfl rfl hl.1 rfl (Nat.le_of_ble_eq_true rfl) rfl hd d_Mo_unwind_181 (fun r_44 s_45 H locs h hP hD hS => ?_)
            refine lv_if_ne (tgt := 195) G.1 G.2.1 d_Mo_unwind_184 (by decide) (fun c184 => ?_) (fun c184 => ?_)
            · skip
              have h := h.1 c184
              exact J_195 y_h2 s_45 d_h2 e_h2 x2h2 H locs h hP hD hS ls (lv_sub hl [2, 3] rfl)
            · skip
              have h := h.2 c184
              refine lv_aload_n G.1 G.2.1 d_Mo_unwind_187 rfl (lv_at hl 2 rfl) ?_
              refine lv_bipush (v := 20) G.1 G.2.1 d_Mo_unwind_188 (by decide) ?_
              refine lv_iconst (v := 0) G.1 G.2.1 d_Mo_unwind_190 (by decide) ?_
              refine W.eq (g2 := F0 m 191 ls [.int 0, .int 20, .ref (ad a0)]) rfl ?_
              obtain ⟨mc_51, ms_52, hr_53, h⟩ := h
              refine uaVi (As := [.int 20, .int 0]) (rest := []) G hP hD hS (ca_Mo_newFault l D g ad mc_51 ms_52 y_h2 _ s_45 a0 20 0 H.size (us H) h_a0 h) w9_Mo_newFault q3887 ⟨Nat.le_of_ble_eq_true rfl, Nat.le_of_ble_eq_true rfl⟩ rfl rfl h_a0 (q := (RMo, TMo, 131)) rfl rfl hl.1 rfl (Nat.le_of_ble_eq_true rfl) rfl hr_53 d_Mo_unwind_191 (fun r_46 y_48 s_47 d_49 e_50 H locs h hP hD hS => ?_)
              have hl := lv_sub (l' := [(0, .ref (ad a0))]) hl [2] rfl
              obtain ⟨hd, h⟩ := h
              refine lv_istore_n (lv' := [(2, .int r_46), (0, .ref (ad a0))]) G.1 G.2.1 d_Mo_unwind_194 rfl hl (by decide) rfl (fun ls hl => ?_)
              exact J_195 y_48 s_47 (d_h2 + d_49) (e_h2 + e_50) r_46 H locs h hP hD hS ls (lv_sub hl [1, 0] rfl)
        · skip
          have h := h.2 c35
          refine lv_aload_n G.1 G.2.1 d_Mo_unwind_38 rfl (lv_at hl 2 rfl) ?_
          refine lv_iload G.1 G.2.1 d_Mo_unwind_39 (lv_at hl 0 rfl) ?_
          refine lv_iload_n G.1 G.2.1 d_Mo_unwind_41 rfl (lv_at hl 3 rfl) ?_
          refine ucVi (As := [.int x_27, .int x2h2]) (rest := []) G hP hD hS (cu_Mo_handlerOf l D g ad y_h2 _ s_h2 a0 x_27 x2h2 H.size h_a0 h) w9_Mo_handlerOf q3895 ⟨Nat.le_of_ble_eq_true rfl, Nat.le_of_ble_eq_true rfl⟩ rfl rfl h_a0 (q := (RMo, TMo, 131)) rfl rfl hl.1 rfl (Nat.le_of_ble_eq_true rfl) rfl hd d_Mo_unwind_42 (fun r_54 s_55 H locs h hP hD hS => ?_)
          refine lv_istore (lv' := [(5, .int r_54), (4, .int x_27), (3, .int ((sV s_h2 b_1 16) - 1)), (0, .ref (ad a0)), (2, .int x2h2)]) G.1 G.2.1 d_Mo_unwind_45 hl (by decide) rfl (fun ls hl => ?_)
          refine W.eq (g2 := F0 m 47 ls []) rfl ?_
          refine lv_iload G.1 G.2.1 d_Mo_unwind_47 (lv_at hl 0 rfl) ?_
          refine lv_if_lt (tgt := 108) G.1 G.2.1 d_Mo_unwind_49 (by decide) (fun c49 => ?_) (fun c49 => ?_)
          · skip
            have h := h.1 c49
            refine lv_aload_n G.1 G.2.1 d_Mo_unwind_108 rfl (lv_at hl 3 rfl) ?_
            obtain ⟨b_56, e_57, c_58, h⟩ := h
            refine ugf (v := .ref (ad b_56)) G hP h_a0 iMo rfl 46 (by decide) rfl q3110 rfl (by show va_rf ((sO s_55 a0 46).map ad) = _; rw [e_57]; rfl) d_Mo_unwind_109 ?_
            refine lv_dup G.1 G.2.1 d_Mo_unwind_112 rfl ?_
            refine ugfN (v := .int (sV s_55 b_56 22)) G hP c_58 iMr rfl 22 (by decide) rfl q3016 rfl rfl d_Mo_unwind_113 ?_
            refine lv_iconst (v := 1) G.1 G.2.1 d_Mo_unwind_116 (by decide) ?_
            refine lv_isub G.1 G.2.1 d_Mo_unwind_117 ?_
            refine upfN G hP hD hS h 22 putV c_58 iMr tMr tMr_ok nMr rfl (by decide) rfl q3016 rfl rfl fV rfl rfl d_Mo_unwind_118 (fun s_59 H locs h hP hD hS => ?_)
            refine lv_aload_n G.1 G.2.1 d_Mo_unwind_121 rfl (lv_at hl 3 rfl) ?_
            refine lv_iconst (v := 3) G.1 G.2.1 d_Mo_unwind_122 (by decide) ?_
            refine lv_aload_n G.1 G.2.1 d_Mo_unwind_123 rfl (lv_at hl 3 rfl) ?_
            refine W.eq (g2 := F0 m 124 ls [.ref (ad a0), .int 3, .ref (ad a0)]) rfl ?_
            obtain ⟨b_60, e_61, c_62, h⟩ := h
            refine ugf (v := .ref (ad b_60)) G hP h_a0 iMo rfl 46 (by decide) rfl q3110 rfl (by show va_rf ((sO s_59 a0 46).map ad) = _; rw [e_61]; rfl) d_Mo_unwind_124 ?_
            refine ugfN (v := .ref (yP y_h2 b_60 17)) G hP c_62 iMr rfl 17 (by decide) rfl q3007 rfl rfl d_Mo_unwind_127 ?_
            refine lv_iload G.1 G.2.1 d_Mo_unwind_130 (lv_at hl 1 rfl) ?_
            refine uiald G hP (kdp c_62 rfl) (typ c_62 rfl) h d_Mo_unwind_132 (fun x_63 h => ?_)
            refine ucVv (As := [.int 3, .int x_63]) (rest := []) G hP hD hS (cu_Mo_note l D g ad y_h2 _ s_59 a0 3 x_63 H.size h_a0 h) w9_Mo_note q3879 ⟨Nat.le_of_ble_eq_true rfl, Nat.le_of_ble_eq_true rfl⟩ rfl rfl h_a0 (q := (RMo, TMo, 131)) rfl rfl hl.1 rfl (Nat.le_of_ble_eq_true rfl) rfl hd d_Mo_unwind_133 (fun s_65 H locs h hP hD hS => ?_)
            refine lv_goto (tgt := 195) G.1 G.2.1 d_Mo_unwind_136 (by decide) ?_
            exact J_195 y_h2 s_65 d_h2 e_h2 x2h2 H locs h hP hD hS ls (lv_sub hl [3, 4] rfl)
          · skip
            have h := h.2 c49
            refine lv_aload_n G.1 G.2.1 d_Mo_unwind_52 rfl (lv_at hl 3 rfl) ?_
            obtain ⟨b_66, e_67, c_68, h⟩ := h
            refine ugf (v := .ref (ad b_66)) G hP h_a0 iMo rfl 46 (by decide) rfl q3110 rfl (by show va_rf ((sO s_55 a0 46).map ad) = _; rw [e_67]; rfl) d_Mo_unwind_53 ?_
            refine ugfN (v := .ref (yP y_h2 b_66 19)) G hP c_68 iMr rfl 19 (by decide) rfl q3011 rfl rfl d_Mo_unwind_56 ?_
            refine lv_iload G.1 G.2.1 d_Mo_unwind_59 (lv_at hl 1 rfl) ?_
            refine lv_iconst (v := 0) G.1 G.2.1 d_Mo_unwind_61 (by decide) ?_
            refine uiast G hP hD hS (kdp c_68 rfl) (typ c_68 rfl) h d_Mo_unwind_62 (fun s_69 H locs h hP hD hS => ?_)
            refine lv_aload_n G.1 G.2.1 d_Mo_unwind_63 rfl (lv_at hl 3 rfl) ?_
            refine lv_iload G.1 G.2.1 d_Mo_unwind_64 (lv_at hl 1 rfl) ?_
            refine lv_iload_n G.1 G.2.1 d_Mo_unwind_66 rfl (lv_at hl 4 rfl) ?_
            refine lv_iconst (v := 1) G.1 G.2.1 d_Mo_unwind_67 (by decide) ?_
            refine W.eq (g2 := F0 m 68 ls [.int 1, .int x2h2, .int x_27, .ref (ad a0)]) rfl ?_
            refine ucVv (As := [.int x_27, .int x2h2, .int 1]) (rest := []) G hP hD hS (cu_Mo_push l D g ad y_h2 _ s_69 a0 x_27 x2h2 1 H.size h_a0 h) w9_Mo_push q3907 ⟨Nat.le_of_ble_eq_true rfl, Nat.le_of_ble_eq_true rfl⟩ rfl rfl h_a0 (q := (RMo, TMo, 131)) rfl rfl hl.1 rfl (Nat.le_of_ble_eq_true rfl) rfl hd d_Mo_unwind_68 (fun s_71 H locs h hP hD hS => ?_)
            refine lv_aload_n G.1 G.2.1 d_Mo_unwind_71 rfl (lv_at hl 3 rfl) ?_
            obtain ⟨b_72, e_73, c_74, h⟩ := h
            refine ugf (v := .ref (ad b_72)) G hP h_a0 iMo rfl 46 (by decide) rfl q3110 rfl (by show va_rf ((sO s_71 a0 46).map ad) = _; rw [e_73]; rfl) d_Mo_unwind_72 ?_
            refine ugfN (v := .ref (yP y_h2 b_72 18)) G hP c_74 iMr rfl 18 (by decide) rfl q3009 rfl rfl d_Mo_unwind_75 ?_
            refine lv_iload G.1 G.2.1 d_Mo_unwind_78 (lv_at hl 1 rfl) ?_
            refine lv_aload_n G.1 G.2.1 d_Mo_unwind_80 rfl (lv_at hl 3 rfl) ?_
            obtain ⟨b_75, e_76, c_77, h⟩ := h
            refine ugf (v := .ref (ad b_75)) G hP h_a0 iMo rfl 45 (by decide) rfl q3109 rfl (by show va_rf ((sO s_71 a0 45).map ad) = _; rw [e_76]; rfl) d_Mo_unwind_81 ?_
            refine ugfN (v := .ref (yP y_h2 b_75 28)) G hP c_77 iMw rfl 28 (by decide) rfl q2760 rfl rfl d_Mo_unwind_84 ?_
            refine lv_iload G.1 G.2.1 d_Mo_unwind_87 (lv_at hl 0 rfl) ?_
            refine uiald G hP (kdp c_77 rfl) (typ c_77 rfl) h d_Mo_unwind_89 (fun x_78 h => ?_)
            refine uiast G hP hD hS (kdp c_74 rfl) (typ c_74 rfl) h d_Mo_unwind_90 (fun s_79 H locs h hP hD hS => ?_)
            refine lv_aload_n G.1 G.2.1 d_Mo_unwind_91 rfl (lv_at hl 3 rfl) ?_
            refine W.eq (g2 := F0 m 92 ls [.ref (ad a0)]) rfl ?_
            refine lv_bipush (v := 7) G.1 G.2.1 d_Mo_unwind_92 (by decide) ?_
            refine lv_aload_n G.1 G.2.1 d_Mo_unwind_94 rfl (lv_at hl 3 rfl) ?_
            obtain ⟨b_80, e_81, c_82, h⟩ := h
            refine ugf (v := .ref (ad b_80)) G hP h_a0 iMo rfl 46 (by decide) rfl q3110 rfl (by show va_rf ((sO s_79 a0 46).map ad) = _; rw [e_81]; rfl) d_Mo_unwind_95 ?_
            refine ugfN (v := .ref (yP y_h2 b_80 17)) G hP c_82 iMr rfl 17 (by decide) rfl q3007 rfl rfl d_Mo_unwind_98 ?_
            refine lv_iload G.1 G.2.1 d_Mo_unwind_101 (lv_at hl 1 rfl) ?_
            refine uiald G hP (kdp c_82 rfl) (typ c_82 rfl) h d_Mo_unwind_103 (fun x_83 h => ?_)
            refine ucVv (As := [.int 7, .int x_83]) (rest := []) G hP hD hS (cu_Mo_note l D g ad y_h2 _ s_79 a0 7 x_83 H.size h_a0 h) w9_Mo_note q3879 ⟨Nat.le_of_ble_eq_true rfl, Nat.le_of_ble_eq_true rfl⟩ rfl rfl h_a0 (q := (RMo, TMo, 131)) rfl rfl hl.1 rfl (Nat.le_of_ble_eq_true rfl) rfl hd d_Mo_unwind_104 (fun s_85 H locs h hP hD hS => ?_)
            exact hret (y_h2, s_85, d_h2, e_h2) _ _ _ _ _ ls h hP hD hS (Nat.le_refl _) (Nat.le_refl _) hd.1 hd.2 d_Mo_unwind_107
  exact L_2 _ y σ 0 0 v1 (Nat.lt_succ_self _) hI_2 H locs hP hD hS ls (lv_sub hl [1, 0] rfl)
theorem q3891 : Cond.methodLink "ClassWorksModel" 957 y_Mo_unwind ∈ lw_ok := lw_okmem (List.mem_of_getElem? (i := 3891) (by decide +kernel)) rfl
theorem q3894 : Cond.code y_Mo_unwind b_Mo_unwind 6 (none) ∈ lw_ok := lw_okmem (List.mem_of_getElem? (i := 3894) (by decide +kernel)) rfl
theorem q3893 : Cond.instanceMethod y_Mo_unwind ∈ lw_ok := lw_okmem (List.mem_of_getElem? (i := 3893) (by decide +kernel)) rfl
theorem q262 : Cond.selects y_Mo_unwind.cls y_Mo_unwind y_Mo_unwind ∈ lw_ok := lw_okmem (List.mem_of_getElem? (i := 262) (by decide +kernel)) rfl
theorem w9_Mo_unwind : CWv y_Mo_unwind b_Mo_unwind 6 (none) 1 ∧ Cond.instanceMethod y_Mo_unwind ∈ lw_ok ∧ Cond.selects y_Mo_unwind.cls y_Mo_unwind y_Mo_unwind ∈ lw_ok := ⟨⟨q3894, q348, by decide +kernel, by decide +kernel, by decide +kernel⟩, q3893, q262⟩
def y_Mo_throwNew : MethodName := ⟨"ClassWorksModel", "throwNew", "(II)V"⟩
abbrev b_Mo_throwNew : ByteArray := prog_14_method_98_code
theorem d_Mo_throwNew_0 : decode b_Mo_throwNew 0 = .ok (.aload_n 0, 1) := by decide +kernel
theorem d_Mo_throwNew_1 : decode b_Mo_throwNew 1 = .ok (.aload_n 0, 1) := by decide +kernel
theorem d_Mo_throwNew_2 : decode b_Mo_throwNew 2 = .ok (.iload_n 2, 1) := by decide +kernel
theorem d_Mo_throwNew_3 : decode b_Mo_throwNew 3 = .ok (.iload_n 1, 1) := by decide +kernel
theorem d_Mo_throwNew_4 : decode b_Mo_throwNew 4 = .ok (.invokevirtual 954, 3) := by decide +kernel
theorem d_Mo_throwNew_7 : decode b_Mo_throwNew 7 = .ok (.invokevirtual 957, 3) := by decide +kernel
theorem d_Mo_throwNew_10 : decode b_Mo_throwNew 10 = .ok (.return_, 1) := by decide +kernel
abbrev ra_Mo_throwNew (mc ms : Nat) : Room := { frames := 7, cells := mc, slots := ms, locals := 198 }
def wa_Mo_throwNew (mc ms : Nat) (y : Ly) (Post : Ly → St → Nat → Nat → Prop) (σ : St) (a0 : Nat) (v1 : Int32) (v2 : Int32) : Prop := ∃ mc_6 ms_7 : Nat, (0 + mc_6 ≤ mc ∧ 0 + ms_7 ≤ ms) ∧ wa_Mo_newFault mc_6 ms_7 y (fun (y_3 : Ly) (s_2 : St) (r_1 : Int32) (d_4 e_5 : Nat) => (0 + d_4 ≤ mc ∧ 0 + e_5 ≤ ms) ∧ ∃ mc_14 ms_15 : Nat, (0 + d_4 + mc_14 ≤ mc ∧ 0 + e_5 + ms_15 ≤ ms) ∧ wa_Mo_unwind mc_14 ms_15 y_3 (fun (y_11 : Ly) (s_10 : St) (d_12 e_13 : Nat) => (0 + d_4 + d_12 ≤ mc ∧ 0 + e_5 + e_13 ≤ ms) ∧ Post y_11 s_10 (0 + d_4 + d_12) (0 + e_5 + e_13)) s_2 a0 r_1) σ a0 v2 v1
set_option maxHeartbeats 4000000 in
set_option maxRecDepth 100000 in
theorem ca_Mo_throwNew (l : Launch) (D : va_G) (g : Nat → ClassId) (ad : Nat → Nat) (mc ms : Nat) (y : Ly) (Post : Ly → St → Nat → Nat → Prop) (σ : St) (a0 : Nat) (v1 : Int32) (v2 : Int32) (sz uz : Nat) (h_a0 : cl a0 = 14) (h : wa_Mo_throwNew mc ms y Post σ a0 v1 v2) : Met l y_Mo_throwNew (mw y_Mo_throwNew b_Mo_throwNew 3 (none)) (ra_Mo_throwNew mc ms) (PCu g D [] [.ref (ad a0), .int v1, .int v2] sz uz (ws g ad y σ)) (va_Qv (fun (u : Ly × St × Nat × Nat) => Post u.1 u.2.1 u.2.2.1 u.2.2.2) (QU D (va_A (ws g ad y σ) sz) (fun u => ws g ad u.1 u.2.1) sz uz (fun u => u.2.2.1) (fun u => u.2.2.2)) (va_A (ws g ad y σ) sz)) mc ms (va_A (ws g ad y σ) sz) := by
  refine ofVu (by decide +kernel) (Nat.le_of_ble_eq_true rfl) ?_
  intro p e s m args below meth c A Q ls H locs G hsz hP hD hS hl hret
  subst hsz
  have hl : lv_has ls 3 [(0, .ref (ad a0)), (1, .int v1), (2, .int v2)] := hl
  have hd : 0 ≤ mc ∧ 0 ≤ ms := ⟨Nat.zero_le _, Nat.zero_le _⟩
  unfold wa_Mo_throwNew at h
  refine lv_aload_n G.1 G.2.1 d_Mo_throwNew_0 rfl (lv_at hl 0 rfl) ?_
  refine lv_aload_n G.1 G.2.1 d_Mo_throwNew_1 rfl (lv_at hl 0 rfl) ?_
  refine lv_iload_n G.1 G.2.1 d_Mo_throwNew_2 rfl (lv_at hl 2 rfl) ?_
  refine lv_iload_n G.1 G.2.1 d_Mo_throwNew_3 rfl (lv_at hl 1 rfl) ?_
  obtain ⟨mc_6, ms_7, hr_8, h⟩ := h
  refine uaVi (As := [.int v2, .int v1]) (rest := [.ref (ad a0)]) G hP hD hS (ca_Mo_newFault l D g ad mc_6 ms_7 y _ σ a0 v2 v1 H.size (us H) h_a0 h) w9_Mo_newFault q3887 ⟨Nat.le_of_ble_eq_true rfl, Nat.le_of_ble_eq_true rfl⟩ rfl rfl h_a0 (q := (RMo, TMo, 131)) rfl rfl hl.1 rfl (Nat.le_of_ble_eq_true rfl) rfl hr_8 d_Mo_throwNew_4 (fun r_1 y_3 s_2 d_4 e_5 H locs h hP hD hS => ?_)
  have hl := lv_sub (l' := []) hl [] rfl
  obtain ⟨hd, h⟩ := h
  obtain ⟨mc_14, ms_15, hr_16, h⟩ := h
  refine uaVv (As := [.int r_1]) (rest := []) G hP hD hS (ca_Mo_unwind l D g ad mc_14 ms_15 y_3 _ s_2 a0 r_1 H.size (us H) h_a0 h) w9_Mo_unwind q3891 ⟨Nat.le_of_ble_eq_true rfl, Nat.le_of_ble_eq_true rfl⟩ rfl rfl h_a0 (q := (RMo, TMo, 131)) rfl rfl hl.1 rfl (Nat.le_of_ble_eq_true rfl) rfl hr_16 d_Mo_throwNew_7 (fun y_11 s_10 d_12 e_13 H locs h hP hD hS => ?_)
  obtain ⟨hd, h⟩ := h
  exact hret (y_11, s_10, 0 + d_4 + d_12, 0 + e_5 + e_13) _ _ _ _ _ ls h hP hD hS (Nat.le_refl _) (Nat.le_refl _) hd.1 hd.2 d_Mo_throwNew_10
theorem q3943 : Cond.methodLink "ClassWorksModel" 1032 y_Mo_tally ∈ lw_ok := lw_okmem (List.mem_of_getElem? (i := 3943) (by decide +kernel)) rfl
theorem q3946 : Cond.code y_Mo_tally b_Mo_tally 2 (none) ∈ lw_ok := lw_okmem (List.mem_of_getElem? (i := 3946) (by decide +kernel)) rfl
theorem q3945 : Cond.instanceMethod y_Mo_tally ∈ lw_ok := lw_okmem (List.mem_of_getElem? (i := 3945) (by decide +kernel)) rfl
theorem q275 : Cond.selects y_Mo_tally.cls y_Mo_tally y_Mo_tally ∈ lw_ok := lw_okmem (List.mem_of_getElem? (i := 275) (by decide +kernel)) rfl
theorem w9_Mo_tally : CWv y_Mo_tally b_Mo_tally 2 (none) 1 ∧ Cond.instanceMethod y_Mo_tally ∈ lw_ok ∧ Cond.selects y_Mo_tally.cls y_Mo_tally y_Mo_tally ∈ lw_ok := ⟨⟨q3946, q348, by decide +kernel, by decide +kernel, by decide +kernel⟩, q3945, q275⟩
theorem q3883 : Cond.methodLink "ClassWorksModel" 1001 y_Mo_throwNew ∈ lw_ok := lw_okmem (List.mem_of_getElem? (i := 3883) (by decide +kernel)) rfl
theorem q3886 : Cond.code y_Mo_throwNew b_Mo_throwNew 3 (none) ∈ lw_ok := lw_okmem (List.mem_of_getElem? (i := 3886) (by decide +kernel)) rfl
theorem q3885 : Cond.instanceMethod y_Mo_throwNew ∈ lw_ok := lw_okmem (List.mem_of_getElem? (i := 3885) (by decide +kernel)) rfl
theorem q260 : Cond.selects y_Mo_throwNew.cls y_Mo_throwNew y_Mo_throwNew ∈ lw_ok := lw_okmem (List.mem_of_getElem? (i := 260) (by decide +kernel)) rfl
theorem w9_Mo_throwNew : CWv y_Mo_throwNew b_Mo_throwNew 3 (none) 2 ∧ Cond.instanceMethod y_Mo_throwNew ∈ lw_ok ∧ Cond.selects y_Mo_throwNew.cls y_Mo_throwNew y_Mo_throwNew ∈ lw_ok := ⟨⟨q3886, q348, by decide +kernel, by decide +kernel, by decide +kernel⟩, q3885, q260⟩
def y_Mo_throwsAt : MethodName := ⟨"ClassWorksModel", "throwsAt", "(III)I"⟩
abbrev b_Mo_throwsAt : ByteArray := prog_14_method_107_code
theorem d_Mo_throwsAt_0 : decode b_Mo_throwsAt 0 = .ok (.aload_n 0, 1) := by decide +kernel
theorem d_Mo_throwsAt_1 : decode b_Mo_throwsAt 1 = .ok (.iload_n 1, 1) := by decide +kernel
theorem d_Mo_throwsAt_2 : decode b_Mo_throwsAt 2 = .ok (.invokevirtual 1032, 3) := by decide +kernel
theorem d_Mo_throwsAt_5 : decode b_Mo_throwsAt 5 = .ok (.aload_n 0, 1) := by decide +kernel
theorem d_Mo_throwsAt_6 : decode b_Mo_throwsAt 6 = .ok (.iload_n 2, 1) := by decide +kernel
theorem d_Mo_throwsAt_7 : decode b_Mo_throwsAt 7 = .ok (.iload_n 3, 1) := by decide +kernel
theorem d_Mo_throwsAt_8 : decode b_Mo_throwsAt 8 = .ok (.invokevirtual 1001, 3) := by decide +kernel
theorem d_Mo_throwsAt_11 : decode b_Mo_throwsAt 11 = .ok (.iconst 1, 1) := by decide +kernel
theorem d_Mo_throwsAt_12 : decode b_Mo_throwsAt 12 = .ok (.ireturn, 1) := by decide +kernel
abbrev ra_Mo_throwsAt (mc ms : Nat) : Room := { frames := 8, cells := mc, slots := ms, locals := 220 }
def wa_Mo_throwsAt (mc ms : Nat) (y : Ly) (Post : Ly → St → Int32 → Nat → Nat → Prop) (σ : St) (a0 : Nat) (v1 : Int32) (v2 : Int32) (v3 : Int32) : Prop := wu_Mo_tally y (fun (s_2 : St) => ∃ mc_8 ms_9 : Nat, (0 + mc_8 ≤ mc ∧ 0 + ms_9 ≤ ms) ∧ wa_Mo_throwNew mc_8 ms_9 y (fun (y_5 : Ly) (s_4 : St) (d_6 e_7 : Nat) => (0 + d_6 ≤ mc ∧ 0 + e_7 ≤ ms) ∧ Post y_5 s_4 1 (0 + d_6) (0 + e_7)) s_2 a0 v2 v3) σ a0 v1
set_option maxHeartbeats 4000000 in
set_option maxRecDepth 100000 in
theorem ca_Mo_throwsAt (l : Launch) (D : va_G) (g : Nat → ClassId) (ad : Nat → Nat) (mc ms : Nat) (y : Ly) (Post : Ly → St → Int32 → Nat → Nat → Prop) (σ : St) (a0 : Nat) (v1 : Int32) (v2 : Int32) (v3 : Int32) (sz uz : Nat) (h_a0 : cl a0 = 14) (h : wa_Mo_throwsAt mc ms y Post σ a0 v1 v2 v3) : Met l y_Mo_throwsAt (mw y_Mo_throwsAt b_Mo_throwsAt 4 (some .int)) (ra_Mo_throwsAt mc ms) (PCu g D [] [.ref (ad a0), .int v1, .int v2, .int v3] sz uz (ws g ad y σ)) (va_Qi (fun (r : Int32) (u : Ly × St × Nat × Nat) => Post u.1 u.2.1 r u.2.2.1 u.2.2.2) (QU D (va_A (ws g ad y σ) sz) (fun u => ws g ad u.1 u.2.1) sz uz (fun u => u.2.2.1) (fun u => u.2.2.2)) (va_A (ws g ad y σ) sz)) mc ms (va_A (ws g ad y σ) sz) := by
  refine ofIu (by decide +kernel) (Nat.le_of_ble_eq_true rfl) ?_
  intro p e s m args below meth c A Q ls H locs G hsz hP hD hS hl hret
  subst hsz
  have hl : lv_has ls 4 [(0, .ref (ad a0)), (1, .int v1), (2, .int v2), (3, .int v3)] := hl
  have hd : 0 ≤ mc ∧ 0 ≤ ms := ⟨Nat.zero_le _, Nat.zero_le _⟩
  unfold wa_Mo_throwsAt at h
  refine lv_aload_n G.1 G.2.1 d_Mo_throwsAt_0 rfl (lv_at hl 0 rfl) ?_
  refine lv_iload_n G.1 G.2.1 d_Mo_throwsAt_1 rfl (lv_at hl 1 rfl) ?_
  refine ucVv (As := [.int v1]) (rest := []) G hP hD hS (cu_Mo_tally l D g ad y _ σ a0 v1 H.size h_a0 h) w9_Mo_tally q3943 ⟨Nat.le_of_ble_eq_true rfl, Nat.le_of_ble_eq_true rfl⟩ rfl rfl h_a0 (q := (RMo, TMo, 131)) rfl rfl hl.1 rfl (Nat.le_of_ble_eq_true rfl) rfl hd d_Mo_throwsAt_2 (fun s_2 H locs h hP hD hS => ?_)
  refine lv_aload_n G.1 G.2.1 d_Mo_throwsAt_5 rfl (lv_at hl 0 rfl) ?_
  refine lv_iload_n G.1 G.2.1 d_Mo_throwsAt_6 rfl (lv_at hl 2 rfl) ?_
  refine lv_iload_n G.1 G.2.1 d_Mo_throwsAt_7 rfl (lv_at hl 3 rfl) ?_
  obtain ⟨mc_8, ms_9, hr_10, h⟩ := h
  refine uaVv (As := [.int v2, .int v3]) (rest := []) G hP hD hS (ca_Mo_throwNew l D g ad mc_8 ms_9 y _ s_2 a0 v2 v3 H.size (us H) h_a0 h) w9_Mo_throwNew q3883 ⟨Nat.le_of_ble_eq_true rfl, Nat.le_of_ble_eq_true rfl⟩ rfl rfl h_a0 (q := (RMo, TMo, 131)) rfl rfl hl.1 rfl (Nat.le_of_ble_eq_true rfl) rfl hr_10 d_Mo_throwsAt_8 (fun y_5 s_4 d_6 e_7 H locs h hP hD hS => ?_)
  have hl := lv_sub (l' := []) hl [] rfl
  obtain ⟨hd, h⟩ := h
  refine lv_iconst (v := 1) G.1 G.2.1 d_Mo_throwsAt_11 (by decide) ?_
  exact hret _ (y_5, s_4, 0 + d_6, 0 + e_7) _ _ _ _ _ ls h hP hD hS (Nat.le_refl _) (Nat.le_refl _) hd.1 hd.2 d_Mo_throwsAt_12
def y_Mo_classStep : MethodName := ⟨"ClassWorksModel", "classStep", "(III)I"⟩
abbrev b_Mo_classStep : ByteArray := prog_14_method_115_code
theorem d_Mo_classStep_0 : decode b_Mo_classStep 0 = .ok (.aload_n 0, 1) := by decide +kernel
theorem d_Mo_classStep_1 : decode b_Mo_classStep 1 = .ok (.iload_n 3, 1) := by decide +kernel
theorem d_Mo_classStep_2 : decode b_Mo_classStep 2 = .ok (.invokevirtual 1032, 3) := by decide +kernel
theorem d_Mo_classStep_5 : decode b_Mo_classStep 5 = .ok (.bipush 44, 2) := by decide +kernel
theorem d_Mo_classStep_7 : decode b_Mo_classStep 7 = .ok (.iload_n 1, 1) := by decide +kernel
theorem d_Mo_classStep_8 : decode b_Mo_classStep 8 = .ok (.imul, 1) := by decide +kernel
theorem d_Mo_classStep_9 : decode b_Mo_classStep 9 = .ok (.bipush 20, 2) := by decide +kernel
theorem d_Mo_classStep_11 : decode b_Mo_classStep 11 = .ok (.iadd, 1) := by decide +kernel
theorem d_Mo_classStep_12 : decode b_Mo_classStep 12 = .ok (.aload_n 0, 1) := by decide +kernel
theorem d_Mo_classStep_13 : decode b_Mo_classStep 13 = .ok (.getfield 917, 3) := by decide +kernel
theorem d_Mo_classStep_16 : decode b_Mo_classStep 16 = .ok (.getfield 933, 3) := by decide +kernel
theorem d_Mo_classStep_19 : decode b_Mo_classStep 19 = .ok (.iload_n 1, 1) := by decide +kernel
theorem d_Mo_classStep_20 : decode b_Mo_classStep 20 = .ok (.iaload, 1) := by decide +kernel
theorem d_Mo_classStep_21 : decode b_Mo_classStep 21 = .ok (.iadd, 1) := by decide +kernel
theorem d_Mo_classStep_22 : decode b_Mo_classStep 22 = .ok (.iconst 1, 1) := by decide +kernel
theorem d_Mo_classStep_23 : decode b_Mo_classStep 23 = .ok (.isub, 1) := by decide +kernel
theorem d_Mo_classStep_24 : decode b_Mo_classStep 24 = .ok (.istore 4, 2) := by decide +kernel
theorem d_Mo_classStep_26 : decode b_Mo_classStep 26 = .ok (.aload_n 0, 1) := by decide +kernel
theorem d_Mo_classStep_27 : decode b_Mo_classStep 27 = .ok (.getfield 917, 3) := by decide +kernel
theorem d_Mo_classStep_30 : decode b_Mo_classStep 30 = .ok (.getfield 936, 3) := by decide +kernel
theorem d_Mo_classStep_33 : decode b_Mo_classStep 33 = .ok (.iload 4, 2) := by decide +kernel
theorem d_Mo_classStep_35 : decode b_Mo_classStep 35 = .ok (.iaload, 1) := by decide +kernel
theorem d_Mo_classStep_36 : decode b_Mo_classStep 36 = .ok (.istore 5, 2) := by decide +kernel
theorem d_Mo_classStep_38 : decode b_Mo_classStep 38 = .ok (.iconst 0, 1) := by decide +kernel
theorem d_Mo_classStep_39 : decode b_Mo_classStep 39 = .ok (.istore 6, 2) := by decide +kernel
theorem d_Mo_classStep_41 : decode b_Mo_classStep 41 = .ok (.iload 5, 2) := by decide +kernel
theorem d_Mo_classStep_43 : decode b_Mo_classStep 43 = .ok (.ifCond .eq 102, 3) := by decide +kernel
theorem d_Mo_classStep_46 : decode b_Mo_classStep 46 = .ok (.aload_n 0, 1) := by decide +kernel
theorem d_Mo_classStep_47 : decode b_Mo_classStep 47 = .ok (.aload_n 0, 1) := by decide +kernel
theorem d_Mo_classStep_48 : decode b_Mo_classStep 48 = .ok (.getfield 522, 3) := by decide +kernel
theorem d_Mo_classStep_51 : decode b_Mo_classStep 51 = .ok (.getfield 677, 3) := by decide +kernel
theorem d_Mo_classStep_54 : decode b_Mo_classStep 54 = .ok (.iload_n 2, 1) := by decide +kernel
theorem d_Mo_classStep_55 : decode b_Mo_classStep 55 = .ok (.iaload, 1) := by decide +kernel
theorem d_Mo_classStep_56 : decode b_Mo_classStep 56 = .ok (.invokevirtual 601, 3) := by decide +kernel
theorem d_Mo_classStep_59 : decode b_Mo_classStep 59 = .ok (.istore 7, 2) := by decide +kernel
theorem d_Mo_classStep_61 : decode b_Mo_classStep 61 = .ok (.iload 7, 2) := by decide +kernel
theorem d_Mo_classStep_63 : decode b_Mo_classStep 63 = .ok (.ifCond .ge 13, 3) := by decide +kernel
theorem d_Mo_classStep_66 : decode b_Mo_classStep 66 = .ok (.aload_n 0, 1) := by decide +kernel
theorem d_Mo_classStep_67 : decode b_Mo_classStep 67 = .ok (.bipush 50, 2) := by decide +kernel
theorem d_Mo_classStep_69 : decode b_Mo_classStep 69 = .ok (.bipush 11, 2) := by decide +kernel
theorem d_Mo_classStep_71 : decode b_Mo_classStep 71 = .ok (.invokevirtual 1001, 3) := by decide +kernel
theorem d_Mo_classStep_74 : decode b_Mo_classStep 74 = .ok (.iconst 1, 1) := by decide +kernel
theorem d_Mo_classStep_75 : decode b_Mo_classStep 75 = .ok (.ireturn, 1) := by decide +kernel
theorem d_Mo_classStep_76 : decode b_Mo_classStep 76 = .ok (.iload 5, 2) := by decide +kernel
theorem d_Mo_classStep_78 : decode b_Mo_classStep 78 = .ok (.sipush 1001, 3) := by decide +kernel
theorem d_Mo_classStep_81 : decode b_Mo_classStep 81 = .ok (.if_icmp .ge 30, 3) := by decide +kernel
theorem d_Mo_classStep_84 : decode b_Mo_classStep 84 = .ok (.aload_n 0, 1) := by decide +kernel
theorem d_Mo_classStep_85 : decode b_Mo_classStep 85 = .ok (.getfield 522, 3) := by decide +kernel
theorem d_Mo_classStep_88 : decode b_Mo_classStep 88 = .ok (.getfield 872, 3) := by decide +kernel
theorem d_Mo_classStep_91 : decode b_Mo_classStep 91 = .ok (.iload 5, 2) := by decide +kernel
theorem d_Mo_classStep_93 : decode b_Mo_classStep 93 = .ok (.iaload, 1) := by decide +kernel
theorem d_Mo_classStep_94 : decode b_Mo_classStep 94 = .ok (.iconst (-1), 1) := by decide +kernel
theorem d_Mo_classStep_95 : decode b_Mo_classStep 95 = .ok (.if_icmp .ne 16, 3) := by decide +kernel
theorem d_Mo_classStep_98 : decode b_Mo_classStep 98 = .ok (.iload 7, 2) := by decide +kernel
theorem d_Mo_classStep_100 : decode b_Mo_classStep 100 = .ok (.ifCond .ne 7, 3) := by decide +kernel
theorem d_Mo_classStep_103 : decode b_Mo_classStep 103 = .ok (.iconst 1, 1) := by decide +kernel
theorem d_Mo_classStep_104 : decode b_Mo_classStep 104 = .ok (.goto 19, 3) := by decide +kernel
theorem d_Mo_classStep_107 : decode b_Mo_classStep 107 = .ok (.iconst 0, 1) := by decide +kernel
theorem d_Mo_classStep_108 : decode b_Mo_classStep 108 = .ok (.goto 15, 3) := by decide +kernel
theorem d_Mo_classStep_111 : decode b_Mo_classStep 111 = .ok (.aload_n 0, 1) := by decide +kernel
theorem d_Mo_classStep_112 : decode b_Mo_classStep 112 = .ok (.aload_n 0, 1) := by decide +kernel
theorem d_Mo_classStep_113 : decode b_Mo_classStep 113 = .ok (.iload 5, 2) := by decide +kernel
theorem d_Mo_classStep_115 : decode b_Mo_classStep 115 = .ok (.invokevirtual 960, 3) := by decide +kernel
theorem d_Mo_classStep_118 : decode b_Mo_classStep 118 = .ok (.iload 7, 2) := by decide +kernel
theorem d_Mo_classStep_120 : decode b_Mo_classStep 120 = .ok (.invokevirtual 963, 3) := by decide +kernel
theorem d_Mo_classStep_123 : decode b_Mo_classStep 123 = .ok (.istore 6, 2) := by decide +kernel
theorem d_Mo_classStep_125 : decode b_Mo_classStep 125 = .ok (.iload_n 3, 1) := by decide +kernel
theorem d_Mo_classStep_126 : decode b_Mo_classStep 126 = .ok (.bipush 54, 2) := by decide +kernel
theorem d_Mo_classStep_128 : decode b_Mo_classStep 128 = .ok (.if_icmp .ne 17, 3) := by decide +kernel
theorem d_Mo_classStep_131 : decode b_Mo_classStep 131 = .ok (.iload 6, 2) := by decide +kernel
theorem d_Mo_classStep_133 : decode b_Mo_classStep 133 = .ok (.ifCond .ne 12, 3) := by decide +kernel
theorem d_Mo_classStep_136 : decode b_Mo_classStep 136 = .ok (.aload_n 0, 1) := by decide +kernel
theorem d_Mo_classStep_137 : decode b_Mo_classStep 137 = .ok (.iconst 0, 1) := by decide +kernel
theorem d_Mo_classStep_138 : decode b_Mo_classStep 138 = .ok (.bipush 6, 2) := by decide +kernel
theorem d_Mo_classStep_140 : decode b_Mo_classStep 140 = .ok (.invokevirtual 1001, 3) := by decide +kernel
theorem d_Mo_classStep_143 : decode b_Mo_classStep 143 = .ok (.iconst 1, 1) := by decide +kernel
theorem d_Mo_classStep_144 : decode b_Mo_classStep 144 = .ok (.ireturn, 1) := by decide +kernel
theorem d_Mo_classStep_145 : decode b_Mo_classStep 145 = .ok (.iload_n 3, 1) := by decide +kernel
theorem d_Mo_classStep_146 : decode b_Mo_classStep 146 = .ok (.bipush 55, 2) := by decide +kernel
theorem d_Mo_classStep_148 : decode b_Mo_classStep 148 = .ok (.if_icmp .ne 34, 3) := by decide +kernel
theorem d_Mo_classStep_151 : decode b_Mo_classStep 151 = .ok (.aload_n 0, 1) := by decide +kernel
theorem d_Mo_classStep_152 : decode b_Mo_classStep 152 = .ok (.getfield 917, 3) := by decide +kernel
theorem d_Mo_classStep_155 : decode b_Mo_classStep 155 = .ok (.getfield 936, 3) := by decide +kernel
theorem d_Mo_classStep_158 : decode b_Mo_classStep 158 = .ok (.iload 4, 2) := by decide +kernel
theorem d_Mo_classStep_160 : decode b_Mo_classStep 160 = .ok (.iload 6, 2) := by decide +kernel
theorem d_Mo_classStep_162 : decode b_Mo_classStep 162 = .ok (.ifCond .eq 7, 3) := by decide +kernel
theorem d_Mo_classStep_165 : decode b_Mo_classStep 165 = .ok (.iconst 1, 1) := by decide +kernel
theorem d_Mo_classStep_166 : decode b_Mo_classStep 166 = .ok (.goto 4, 3) := by decide +kernel
theorem d_Mo_classStep_169 : decode b_Mo_classStep 169 = .ok (.iconst 0, 1) := by decide +kernel
theorem d_Mo_classStep_170 : decode b_Mo_classStep 170 = .ok (.iastore, 1) := by decide +kernel
theorem d_Mo_classStep_171 : decode b_Mo_classStep 171 = .ok (.aload_n 0, 1) := by decide +kernel
theorem d_Mo_classStep_172 : decode b_Mo_classStep 172 = .ok (.getfield 917, 3) := by decide +kernel
theorem d_Mo_classStep_175 : decode b_Mo_classStep 175 = .ok (.getfield 939, 3) := by decide +kernel
theorem d_Mo_classStep_178 : decode b_Mo_classStep 178 = .ok (.iload 4, 2) := by decide +kernel
theorem d_Mo_classStep_180 : decode b_Mo_classStep 180 = .ok (.iconst 0, 1) := by decide +kernel
theorem d_Mo_classStep_181 : decode b_Mo_classStep 181 = .ok (.bastore, 1) := by decide +kernel
theorem d_Mo_classStep_182 : decode b_Mo_classStep 182 = .ok (.aload_n 0, 1) := by decide +kernel
theorem d_Mo_classStep_183 : decode b_Mo_classStep 183 = .ok (.getfield 917, 3) := by decide +kernel
theorem d_Mo_classStep_186 : decode b_Mo_classStep 186 = .ok (.getfield 930, 3) := by decide +kernel
theorem d_Mo_classStep_189 : decode b_Mo_classStep 189 = .ok (.iload_n 1, 1) := by decide +kernel
theorem d_Mo_classStep_190 : decode b_Mo_classStep 190 = .ok (.dup2, 1) := by decide +kernel
theorem d_Mo_classStep_191 : decode b_Mo_classStep 191 = .ok (.iaload, 1) := by decide +kernel
theorem d_Mo_classStep_192 : decode b_Mo_classStep 192 = .ok (.iconst 1, 1) := by decide +kernel
theorem d_Mo_classStep_193 : decode b_Mo_classStep 193 = .ok (.iadd, 1) := by decide +kernel
theorem d_Mo_classStep_194 : decode b_Mo_classStep 194 = .ok (.iastore, 1) := by decide +kernel
theorem d_Mo_classStep_195 : decode b_Mo_classStep 195 = .ok (.iconst 1, 1) := by decide +kernel
theorem d_Mo_classStep_196 : decode b_Mo_classStep 196 = .ok (.ireturn, 1) := by decide +kernel
abbrev ra_Mo_classStep (mc ms : Nat) : Room := { frames := 8, cells := mc, slots := ms, locals := 220 }
def wja_Mo_classStep_182 (mc ms : Nat) (Post : Ly → St → Int32 → Nat → Nat → Prop) (a0 : Nat) (y_j182 : Ly) (s_j182 : St) (d_j182 e_j182 : Nat) (x1j182 : Int32) : Prop := (d_j182 ≤ mc ∧ e_j182 ≤ ms) ∧ ∃ b_8 : Nat, sO s_j182 a0 46 = some b_8 ∧ cl b_8 = 12 ∧ xA y_j182 s_j182 b_8 18 x1j182 (fun x_11 : Int32 => xS y_j182 s_j182 b_8 18 x1j182 (x_11 + 1) (fun s_12 : St => Post y_j182 s_12 1 d_j182 e_j182))
def wja_Mo_classStep_170 (mc ms : Nat) (Post : Ly → St → Int32 → Nat → Nat → Prop) (a0 : Nat) (y_j170 : Ly) (s_j170 : St) (d_j170 e_j170 : Nat) (x1j170 : Int32) (x4j170 : Int32) (z0j170 : Nat) (z0j170k : Nat) (z1j170 : Int32) (z2j170 : Int32) : Prop := (d_j170 ≤ mc ∧ e_j170 ≤ ms) ∧ (kd (cl z0j170) z0j170k = 2 ∧ tyx (cl z0j170) z0j170k = 0) ∧ xS y_j170 s_j170 z0j170 z0j170k z1j170 z2j170 (fun s_16 : St => ∃ b_17 : Nat, sO s_16 a0 46 = some b_17 ∧ cl b_17 = 12 ∧ xS y_j170 s_16 b_17 21 x4j170 (vp_nar .boolean 0) (fun s_20 : St => wja_Mo_classStep_182 mc ms Post a0 y_j170 s_20 d_j170 e_j170 x1j170))
def wja_Mo_classStep_145 (mc ms : Nat) (Post : Ly → St → Int32 → Nat → Nat → Prop) (a0 : Nat) (y_j145 : Ly) (s_j145 : St) (d_j145 e_j145 : Nat) (x1j145 : Int32) (x3j145 : Int32) (x4j145 : Int32) (x6j145 : Int32) : Prop := (d_j145 ≤ mc ∧ e_j145 ≤ ms) ∧ ((¬ x3j145 = 55 → wja_Mo_classStep_182 mc ms Post a0 y_j145 s_j145 d_j145 e_j145 x1j145) ∧ (x3j145 = 55 → ∃ b_13 : Nat, sO s_j145 a0 46 = some b_13 ∧ cl b_13 = 12 ∧ ((x6j145 = 0 → wja_Mo_classStep_170 mc ms Post a0 y_j145 s_j145 d_j145 e_j145 x1j145 x4j145 b_13 20 x4j145 0) ∧ (¬ (x6j145 = 0) → wja_Mo_classStep_170 mc ms Post a0 y_j145 s_j145 d_j145 e_j145 x1j145 x4j145 b_13 20 x4j145 1))))
def wja_Mo_classStep_123 (mc ms : Nat) (Post : Ly → St → Int32 → Nat → Nat → Prop) (a0 : Nat) (y_j123 : Ly) (s_j123 : St) (d_j123 e_j123 : Nat) (x1j123 : Int32) (x3j123 : Int32) (x4j123 : Int32) (z0j123 : Int32) : Prop := (d_j123 ≤ mc ∧ e_j123 ≤ ms) ∧ ((¬ x3j123 = 54 → wja_Mo_classStep_145 mc ms Post a0 y_j123 s_j123 d_j123 e_j123 x1j123 x3j123 x4j123 z0j123) ∧ (x3j123 = 54 → ((¬ z0j123 = 0 → wja_Mo_classStep_145 mc ms Post a0 y_j123 s_j123 d_j123 e_j123 x1j123 x3j123 x4j123 z0j123) ∧ (z0j123 = 0 → ∃ mc_32 ms_33 : Nat, (d_j123 + mc_32 ≤ mc ∧ e_j123 + ms_33 ≤ ms) ∧ wa_Mo_throwNew mc_32 ms_33 y_j123 (fun (y_29 : Ly) (s_28 : St) (d_30 e_31 : Nat) => (d_j123 + d_30 ≤ mc ∧ e_j123 + e_31 ≤ ms) ∧ Post y_29 s_28 1 (d_j123 + d_30) (e_j123 + e_31)) s_j123 a0 0 6))))
def wja_Mo_classStep_111 (mc ms : Nat) (Post : Ly → St → Int32 → Nat → Nat → Prop) (a0 : Nat) (y_j111 : Ly) (s_j111 : St) (d_j111 e_j111 : Nat) (x1j111 : Int32) (x3j111 : Int32) (x4j111 : Int32) (x5j111 : Int32) (x7j111 : Int32) : Prop := (d_j111 ≤ mc ∧ e_j111 ≤ ms) ∧ wu_Mo_classOfRef y_j111 (fun (s_36 : St) (r_35 : Int32) => wu_Mo_isBelow y_j111 (fun (s_38 : St) (r_37 : Int32) => wja_Mo_classStep_123 mc ms Post a0 y_j111 s_38 d_j111 e_j111 x1j111 x3j111 x4j111 r_37) s_36 a0 r_35 x7j111) s_j111 a0 x5j111
def wa_Mo_classStep (mc ms : Nat) (y : Ly) (Post : Ly → St → Int32 → Nat → Nat → Prop) (σ : St) (a0 : Nat) (v1 : Int32) (v2 : Int32) (v3 : Int32) : Prop := wu_Mo_tally y (fun (s_2 : St) => ∃ b_3 : Nat, sO s_2 a0 46 = some b_3 ∧ cl b_3 = 12 ∧ xA y s_2 b_3 19 v1 (fun x_6 : Int32 => xA y s_2 b_3 20 ((((44 * v1) + 20) + x_6) - 1) (fun x_7 : Int32 => ((x_7 = 0 → wja_Mo_classStep_145 mc ms Post a0 y s_2 0 0 v1 v3 ((((44 * v1) + 20) + x_6) - 1) 0) ∧ (¬ (x_7 = 0) → ∃ b_21 : Nat, sO s_2 a0 45 = some b_21 ∧ cl b_21 = 13 ∧ xA y s_2 b_21 31 v2 (fun x_24 : Int32 => wu_Mo_classOf y (fun (s_26 : St) (r_25 : Int32) => ((0 ≤ r_25 → ((1001 ≤ x_7 → wja_Mo_classStep_111 mc ms Post a0 y s_26 0 0 v1 v3 ((((44 * v1) + 20) + x_6) - 1) x_7 r_25) ∧ (¬ (1001 ≤ x_7) → ∃ b_39 : Nat, sO s_26 a0 45 = some b_39 ∧ cl b_39 = 13 ∧ xA y s_26 b_39 45 x_7 (fun x_42 : Int32 => ((¬ x_42 = (-1) → wja_Mo_classStep_111 mc ms Post a0 y s_26 0 0 v1 v3 ((((44 * v1) + 20) + x_6) - 1) x_7 r_25) ∧ (x_42 = (-1) → ((¬ r_25 = 0 → wja_Mo_classStep_123 mc ms Post a0 y s_26 0 0 v1 v3 ((((44 * v1) + 20) + x_6) - 1) 0) ∧ (r_25 = 0 → wja_Mo_classStep_123 mc ms Post a0 y s_26 0 0 v1 v3 ((((44 * v1) + 20) + x_6) - 1) 1)))))))) ∧ (¬ (0 ≤ r_25) → ∃ mc_48 ms_49 : Nat, (0 + mc_48 ≤ mc ∧ 0 + ms_49 ≤ ms) ∧ wa_Mo_throwNew mc_48 ms_49 y (fun (y_45 : Ly) (s_44 : St) (d_46 e_47 : Nat) => (0 + d_46 ≤ mc ∧ 0 + e_47 ≤ ms) ∧ Post y_45 s_44 1 (0 + d_46) (0 + e_47)) s_26 a0 50 11))) s_2 a0 x_24)))))) σ a0 v3
set_option maxHeartbeats 4000000 in
set_option maxRecDepth 100000 in
theorem ca_Mo_classStep (l : Launch) (D : va_G) (g : Nat → ClassId) (ad : Nat → Nat) (mc ms : Nat) (y : Ly) (Post : Ly → St → Int32 → Nat → Nat → Prop) (σ : St) (a0 : Nat) (v1 : Int32) (v2 : Int32) (v3 : Int32) (sz uz : Nat) (h_a0 : cl a0 = 14) (h : wa_Mo_classStep mc ms y Post σ a0 v1 v2 v3) : Met l y_Mo_classStep (mw y_Mo_classStep b_Mo_classStep 8 (some .int)) (ra_Mo_classStep mc ms) (PCu g D [] [.ref (ad a0), .int v1, .int v2, .int v3] sz uz (ws g ad y σ)) (va_Qi (fun (r : Int32) (u : Ly × St × Nat × Nat) => Post u.1 u.2.1 r u.2.2.1 u.2.2.2) (QU D (va_A (ws g ad y σ) sz) (fun u => ws g ad u.1 u.2.1) sz uz (fun u => u.2.2.1) (fun u => u.2.2.2)) (va_A (ws g ad y σ) sz)) mc ms (va_A (ws g ad y σ) sz) := by
  refine ofIu (by decide +kernel) (Nat.le_of_ble_eq_true rfl) ?_
  intro p e s m args below meth c A Q ls H locs G hsz hP hD hS hl hret
  subst hsz
  have hl : lv_has ls 8 [(0, .ref (ad a0)), (1, .int v1), (2, .int v2), (3, .int v3)] := hl
  have hd : 0 ≤ mc ∧ 0 ≤ ms := ⟨Nat.zero_le _, Nat.zero_le _⟩
  unfold wa_Mo_classStep at h
  refine lv_aload_n G.1 G.2.1 d_Mo_classStep_0 rfl (lv_at hl 0 rfl) ?_
  refine lv_iload_n G.1 G.2.1 d_Mo_classStep_1 rfl (lv_at hl 3 rfl) ?_
  refine ucVv (As := [.int v3]) (rest := []) G hP hD hS (cu_Mo_tally l D g ad y _ σ a0 v3 H.size h_a0 h) w9_Mo_tally q3943 ⟨Nat.le_of_ble_eq_true rfl, Nat.le_of_ble_eq_true rfl⟩ rfl rfl h_a0 (q := (RMo, TMo, 131)) rfl rfl hl.1 rfl (Nat.le_of_ble_eq_true rfl) rfl hd d_Mo_classStep_2 (fun s_2 H locs h hP hD hS => ?_)
  refine lv_bipush (v := 44) G.1 G.2.1 d_Mo_classStep_5 (by decide) ?_
  refine lv_iload_n G.1 G.2.1 d_Mo_classStep_7 rfl (lv_at hl 1 rfl) ?_
  refine lv_imul G.1 G.2.1 d_Mo_classStep_8 ?_
  refine lv_bipush (v := 20) G.1 G.2.1 d_Mo_classStep_9 (by decide) ?_
  refine lv_iadd G.1 G.2.1 d_Mo_classStep_11 ?_
  refine lv_aload_n G.1 G.2.1 d_Mo_classStep_12 rfl (lv_at hl 0 rfl) ?_
  obtain ⟨b_3, e_4, c_5, h⟩ := h
  refine ugf (v := .ref (ad b_3)) G hP h_a0 iMo rfl 46 (by decide) rfl q3110 rfl (by show va_rf ((sO s_2 a0 46).map ad) = _; rw [e_4]; rfl) d_Mo_classStep_13 ?_
  refine ugfN (v := .ref (yP y b_3 19)) G hP c_5 iMr rfl 19 (by decide) rfl q3011 rfl rfl d_Mo_classStep_16 ?_
  refine W.eq (g2 := F0 m 19 ls [.ref (yP y b_3 19), .int ((44 * v1) + 20)]) rfl ?_
  refine lv_iload_n G.1 G.2.1 d_Mo_classStep_19 rfl (lv_at hl 1 rfl) ?_
  refine uiald G hP (kdp c_5 rfl) (typ c_5 rfl) h d_Mo_classStep_20 (fun x_6 h => ?_)
  refine lv_iadd G.1 G.2.1 d_Mo_classStep_21 ?_
  refine lv_iconst (v := 1) G.1 G.2.1 d_Mo_classStep_22 (by decide) ?_
  refine lv_isub G.1 G.2.1 d_Mo_classStep_23 ?_
  refine lv_istore (lv' := [(4, .int ((((44 * v1) + 20) + x_6) - 1)), (0, .ref (ad a0)), (1, .int v1), (2, .int v2), (3, .int v3)]) G.1 G.2.1 d_Mo_classStep_24 hl (by decide) rfl (fun ls hl => ?_)
  refine lv_aload_n G.1 G.2.1 d_Mo_classStep_26 rfl (lv_at hl 1 rfl) ?_
  refine ugf (v := .ref (ad b_3)) G hP h_a0 iMo rfl 46 (by decide) rfl q3110 rfl (by show va_rf ((sO s_2 a0 46).map ad) = _; rw [e_4]; rfl) d_Mo_classStep_27 ?_
  refine ugfN (v := .ref (yP y b_3 20)) G hP c_5 iMr rfl 20 (by decide) rfl q3013 rfl rfl d_Mo_classStep_30 ?_
  refine lv_iload G.1 G.2.1 d_Mo_classStep_33 (lv_at hl 0 rfl) ?_
  refine uiald G hP (kdp c_5 rfl) (typ c_5 rfl) h d_Mo_classStep_35 (fun x_7 h => ?_)
  refine lv_istore (lv' := [(5, .int x_7), (4, .int ((((44 * v1) + 20) + x_6) - 1)), (0, .ref (ad a0)), (1, .int v1), (2, .int v2), (3, .int v3)]) G.1 G.2.1 d_Mo_classStep_36 hl (by decide) rfl (fun ls hl => ?_)
  refine W.eq (g2 := F0 m 38 ls []) rfl ?_
  refine lv_iconst (v := 0) G.1 G.2.1 d_Mo_classStep_38 (by decide) ?_
  refine lv_istore (lv' := [(6, .int 0), (5, .int x_7), (4, .int ((((44 * v1) + 20) + x_6) - 1)), (0, .ref (ad a0)), (1, .int v1), (2, .int v2), (3, .int v3)]) G.1 G.2.1 d_Mo_classStep_39 hl (by decide) rfl (fun ls hl => ?_)
  refine lv_iload G.1 G.2.1 d_Mo_classStep_41 (lv_at hl 1 rfl) ?_
  have J_145 : ∀ (y_j145 : Ly) (s_j145 : St) (d_j145 e_j145 : Nat) (x1j145 : Int32) (x3j145 : Int32) (x4j145 : Int32) (x6j145 : Int32) (H : Heap) (locs : List Loc), wja_Mo_classStep_145 mc ms Post a0 y_j145 s_j145 d_j145 e_j145 x1j145 x3j145 x4j145 x6j145 → va_P D CL (ws g ad y_j145 s_j145) H → va_D A (ws g ad y_j145 s_j145) → va_S A s.heap H locs → ∀ ls, lv_has ls 8 [(0, .ref (ad a0)), (1, .int x1j145), (3, .int x3j145), (4, .int x4j145), (6, .int x6j145)] → W p l e (ra_Mo_classStep mc ms) s m args below meth c H locs d_j145 e_j145 Q (F0 m 145 ls []) := by
    intro y_j145 s_j145 d_j145 e_j145 x1j145 x3j145 x4j145 x6j145 H locs h hP hD hS ls hl
    unfold wja_Mo_classStep_145 at h
    obtain ⟨hd, h⟩ := h
    refine lv_iload_n G.1 G.2.1 d_Mo_classStep_145 rfl (lv_at hl 2 rfl) ?_
    refine lv_bipush (v := 55) G.1 G.2.1 d_Mo_classStep_146 (by decide) ?_
    have J_182 : ∀ (y_j182 : Ly) (s_j182 : St) (d_j182 e_j182 : Nat) (x1j182 : Int32) (H : Heap) (locs : List Loc), wja_Mo_classStep_182 mc ms Post a0 y_j182 s_j182 d_j182 e_j182 x1j182 → va_P D CL (ws g ad y_j182 s_j182) H → va_D A (ws g ad y_j182 s_j182) → va_S A s.heap H locs → ∀ ls, lv_has ls 8 [(0, .ref (ad a0)), (1, .int x1j182)] → W p l e (ra_Mo_classStep mc ms) s m args below meth c H locs d_j182 e_j182 Q (F0 m 182 ls []) := by
      intro y_j182 s_j182 d_j182 e_j182 x1j182 H locs h hP hD hS ls hl
      unfold wja_Mo_classStep_182 at h
      obtain ⟨hd, h⟩ := h
      refine lv_aload_n G.1 G.2.1 d_Mo_classStep_182 rfl (lv_at hl 0 rfl) ?_
      obtain ⟨b_8, e_9, c_10, h⟩ := h
      refine ugf (v := .ref (ad b_8)) G hP h_a0 iMo rfl 46 (by decide) rfl q3110 rfl (by show va_rf ((sO s_j182 a0 46).map ad) = _; rw [e_9]; rfl) d_Mo_classStep_183 ?_
      refine ugfN (v := .ref (yP y_j182 b_8 18)) G hP c_10 iMr rfl 18 (by decide) rfl q3009 rfl rfl d_Mo_classStep_186 ?_
      refine lv_iload_n G.1 G.2.1 d_Mo_classStep_189 rfl (lv_at hl 1 rfl) ?_
      refine lv_dup2_11 G.1 G.2.1 d_Mo_classStep_190 rfl rfl ?_
      refine uiald G hP (kdp c_10 rfl) (typ c_10 rfl) h d_Mo_classStep_191 (fun x_11 h => ?_)
      refine lv_iconst (v := 1) G.1 G.2.1 d_Mo_classStep_192 (by decide) ?_
      refine lv_iadd G.1 G.2.1 d_Mo_classStep_193 ?_
      refine uiast G hP hD hS (kdp c_10 rfl) (typ c_10 rfl) h d_Mo_classStep_194 (fun s_12 H locs h hP hD hS => ?_)
      refine lv_iconst (v := 1) G.1 G.2.1 d_Mo_classStep_195 (by decide) ?_
      exact hret _ (y_j182, s_12, d_j182, e_j182) _ _ _ _ _ ls h hP hD hS (Nat.le_refl _) (Nat.le_refl _) hd.1 hd.2 d_Mo_classStep_196
    refine lv_icmp_ne (tgt := 182) G.1 G.2.1 d_Mo_classStep_148 (by decide) (fun c148 => ?_) (fun c148 => ?_)
    · skip
      have h := h.1 c148
      exact J_182 y_j145 s_j145 d_j145 e_j145 x1j145 H locs h hP hD hS ls (lv_sub hl [0, 1] rfl)
    · skip
      have h := h.2 c148
      refine lv_aload_n G.1 G.2.1 d_Mo_classStep_151 rfl (lv_at hl 0 rfl) ?_
      obtain ⟨b_13, e_14, c_15, h⟩ := h
      refine ugf (v := .ref (ad b_13)) G hP h_a0 iMo rfl 46 (by decide) rfl q3110 rfl (by show va_rf ((sO s_j145 a0 46).map ad) = _; rw [e_14]; rfl) d_Mo_classStep_152 ?_
      refine ugfN (v := .ref (yP y_j145 b_13 20)) G hP c_15 iMr rfl 20 (by decide) rfl q3013 rfl rfl d_Mo_classStep_155 ?_
      refine lv_iload G.1 G.2.1 d_Mo_classStep_158 (lv_at hl 3 rfl) ?_
      refine lv_iload G.1 G.2.1 d_Mo_classStep_160 (lv_at hl 4 rfl) ?_
      have J_170 : ∀ (y_j170 : Ly) (s_j170 : St) (d_j170 e_j170 : Nat) (x1j170 : Int32) (x4j170 : Int32) (z0j170 : Nat) (z0j170k : Nat) (z1j170 : Int32) (z2j170 : Int32) (H : Heap) (locs : List Loc), wja_Mo_classStep_170 mc ms Post a0 y_j170 s_j170 d_j170 e_j170 x1j170 x4j170 z0j170 z0j170k z1j170 z2j170 → va_P D CL (ws g ad y_j170 s_j170) H → va_D A (ws g ad y_j170 s_j170) → va_S A s.heap H locs → ∀ ls, lv_has ls 8 [(0, .ref (ad a0)), (1, .int x1j170), (4, .int x4j170)] → W p l e (ra_Mo_classStep mc ms) s m args below meth c H locs d_j170 e_j170 Q (F0 m 170 ls [.int z2j170, .int z1j170, .ref (yP y_j170 z0j170 z0j170k)]) := by
        intro y_j170 s_j170 d_j170 e_j170 x1j170 x4j170 z0j170 z0j170k z1j170 z2j170 H locs h hP hD hS ls hl
        unfold wja_Mo_classStep_170 at h
        obtain ⟨hd, h⟩ := h
        obtain ⟨c_z0j170, h⟩ := h
        refine uiast G hP hD hS c_z0j170.1 c_z0j170.2 h d_Mo_classStep_170 (fun s_16 H locs h hP hD hS => ?_)
        refine lv_aload_n G.1 G.2.1 d_Mo_classStep_171 rfl (lv_at hl 0 rfl) ?_
        obtain ⟨b_17, e_18, c_19, h⟩ := h
        refine ugf (v := .ref (ad b_17)) G hP h_a0 iMo rfl 46 (by decide) rfl q3110 rfl (by show va_rf ((sO s_16 a0 46).map ad) = _; rw [e_18]; rfl) d_Mo_classStep_172 ?_
        refine ugfN (v := .ref (yP y_j170 b_17 21)) G hP c_19 iMr rfl 21 (by decide) rfl q3015 rfl rfl d_Mo_classStep_175 ?_
        refine lv_iload G.1 G.2.1 d_Mo_classStep_178 (lv_at hl 2 rfl) ?_
        refine lv_iconst (v := 0) G.1 G.2.1 d_Mo_classStep_180 (by decide) ?_
        refine uzast G hP hD hS (kdp c_19 rfl) (typ c_19 rfl) h d_Mo_classStep_181 (fun s_20 H locs h hP hD hS => ?_)
        exact J_182 y_j170 s_20 d_j170 e_j170 x1j170 H locs h hP hD hS ls (lv_sub hl [0, 1] rfl)
      refine lv_if_eq (tgt := 169) G.1 G.2.1 d_Mo_classStep_162 (by decide) (fun c162 => ?_) (fun c162 => ?_)
      · skip
        have h := h.1 c162
        refine lv_iconst (v := 0) G.1 G.2.1 d_Mo_classStep_169 (by decide) ?_
        exact J_170 y_j145 s_j145 d_j145 e_j145 x1j145 x4j145 b_13 20 x4j145 0 H locs h hP hD hS ls (lv_sub hl [0, 1, 3] rfl)
      · skip
        have h := h.2 c162
        refine lv_iconst (v := 1) G.1 G.2.1 d_Mo_classStep_165 (by decide) ?_
        refine lv_goto (tgt := 170) G.1 G.2.1 d_Mo_classStep_166 (by decide) ?_
        exact J_170 y_j145 s_j145 d_j145 e_j145 x1j145 x4j145 b_13 20 x4j145 1 H locs h hP hD hS ls (lv_sub hl [0, 1, 3] rfl)
  refine lv_if_eq (tgt := 145) G.1 G.2.1 d_Mo_classStep_43 (by decide) (fun c43 => ?_) (fun c43 => ?_)
  · skip
    have h := h.1 c43
    exact J_145 y s_2 0 0 v1 v3 ((((44 * v1) + 20) + x_6) - 1) 0 H locs h hP hD hS ls (lv_sub hl [3, 4, 6, 2, 0] rfl)
  · skip
    have h := h.2 c43
    refine lv_aload_n G.1 G.2.1 d_Mo_classStep_46 rfl (lv_at hl 3 rfl) ?_
    refine lv_aload_n G.1 G.2.1 d_Mo_classStep_47 rfl (lv_at hl 3 rfl) ?_
    obtain ⟨b_21, e_22, c_23, h⟩ := h
    refine ugf (v := .ref (ad b_21)) G hP h_a0 iMo rfl 45 (by decide) rfl q3109 rfl (by show va_rf ((sO s_2 a0 45).map ad) = _; rw [e_22]; rfl) d_Mo_classStep_48 ?_
    refine ugfN (v := .ref (yP y b_21 31)) G hP c_23 iMw rfl 31 (by decide) rfl q2766 rfl rfl d_Mo_classStep_51 ?_
    refine lv_iload_n G.1 G.2.1 d_Mo_classStep_54 rfl (lv_at hl 5 rfl) ?_
    refine uiald G hP (kdp c_23 rfl) (typ c_23 rfl) h d_Mo_classStep_55 (fun x_24 h => ?_)
    refine ucVi (As := [.int x_24]) (rest := []) G hP hD hS (cu_Mo_classOf l D g ad y _ s_2 a0 x_24 H.size h_a0 h) w9_Mo_classOf q3571 ⟨Nat.le_of_ble_eq_true rfl, Nat.le_of_ble_eq_true rfl⟩ rfl rfl h_a0 (q := (RMo, TMo, 131)) rfl rfl hl.1 rfl (Nat.le_of_ble_eq_true rfl) rfl hd d_Mo_classStep_56 (fun r_25 s_26 H locs h hP hD hS => ?_)
    refine lv_istore (lv' := [(7, .int r_25), (6, .int 0), (5, .int x_7), (4, .int ((((44 * v1) + 20) + x_6) - 1)), (0, .ref (ad a0)), (1, .int v1), (2, .int v2), (3, .int v3)]) G.1 G.2.1 d_Mo_classStep_59 hl (by decide) rfl (fun ls hl => ?_)
    refine W.eq (g2 := F0 m 61 ls []) rfl ?_
    refine lv_iload G.1 G.2.1 d_Mo_classStep_61 (lv_at hl 0 rfl) ?_
    refine lv_if_ge (tgt := 76) G.1 G.2.1 d_Mo_classStep_63 (by decide) (fun c63 => ?_) (fun c63 => ?_)
    · skip
      have h := h.1 c63
      refine lv_iload G.1 G.2.1 d_Mo_classStep_76 (lv_at hl 2 rfl) ?_
      refine lv_sipush (v := 1001) G.1 G.2.1 d_Mo_classStep_78 (by decide) ?_
      have J_123 : ∀ (y_j123 : Ly) (s_j123 : St) (d_j123 e_j123 : Nat) (x1j123 : Int32) (x3j123 : Int32) (x4j123 : Int32) (z0j123 : Int32) (H : Heap) (locs : List Loc), wja_Mo_classStep_123 mc ms Post a0 y_j123 s_j123 d_j123 e_j123 x1j123 x3j123 x4j123 z0j123 → va_P D CL (ws g ad y_j123 s_j123) H → va_D A (ws g ad y_j123 s_j123) → va_S A s.heap H locs → ∀ ls, lv_has ls 8 [(0, .ref (ad a0)), (1, .int x1j123), (3, .int x3j123), (4, .int x4j123)] → W p l e (ra_Mo_classStep mc ms) s m args below meth c H locs d_j123 e_j123 Q (F0 m 123 ls [.int z0j123]) := by
        intro y_j123 s_j123 d_j123 e_j123 x1j123 x3j123 x4j123 z0j123 H locs h hP hD hS ls hl
        unfold wja_Mo_classStep_123 at h
        obtain ⟨hd, h⟩ := h
        refine lv_istore (lv' := [(6, .int z0j123), (0, .ref (ad a0)), (1, .int x1j123), (3, .int x3j123), (4, .int x4j123)]) G.1 G.2.1 d_Mo_classStep_123 hl (by decide) rfl (fun ls hl => ?_)
        refine lv_iload_n G.1 G.2.1 d_Mo_classStep_125 rfl (lv_at hl 3 rfl) ?_
        refine lv_bipush (v := 54) G.1 G.2.1 d_Mo_classStep_126 (by decide) ?_
        refine lv_icmp_ne (tgt := 145) G.1 G.2.1 d_Mo_classStep_128 (by decide) (fun c128 => ?_) (fun c128 => ?_)
        · skip
          have h := h.1 c128
          exact J_145 y_j123 s_j123 d_j123 e_j123 x1j123 x3j123 x4j123 z0j123 H locs h hP hD hS ls (lv_sub hl [1, 2, 3, 4, 0] rfl)
        · skip
          have h := h.2 c128
          refine lv_iload G.1 G.2.1 d_Mo_classStep_131 (lv_at hl 0 rfl) ?_
          refine lv_if_ne (tgt := 145) G.1 G.2.1 d_Mo_classStep_133 (by decide) (fun c133 => ?_) (fun c133 => ?_)
          · skip
            have h := h.1 c133
            exact J_145 y_j123 s_j123 d_j123 e_j123 x1j123 x3j123 x4j123 z0j123 H locs h hP hD hS ls (lv_sub hl [1, 2, 3, 4, 0] rfl)
          · skip
            have h := h.2 c133
            refine lv_aload_n G.1 G.2.1 d_Mo_classStep_136 rfl (lv_at hl 1 rfl) ?_
            refine lv_iconst (v := 0) G.1 G.2.1 d_Mo_classStep_137 (by decide) ?_
            refine lv_bipush (v := 6) G.1 G.2.1 d_Mo_classStep_138 (by decide) ?_
            obtain ⟨mc_32, ms_33, hr_34, h⟩ := h
            refine uaVv (As := [.int 0, .int 6]) (rest := []) G hP hD hS (ca_Mo_throwNew l D g ad mc_32 ms_33 y_j123 _ s_j123 a0 0 6 H.size (us H) h_a0 h) w9_Mo_throwNew q3883 ⟨Nat.le_of_ble_eq_true rfl, Nat.le_of_ble_eq_true rfl⟩ rfl rfl h_a0 (q := (RMo, TMo, 131)) rfl rfl hl.1 rfl (Nat.le_of_ble_eq_true rfl) rfl hr_34 d_Mo_classStep_140 (fun y_29 s_28 d_30 e_31 H locs h hP hD hS => ?_)
            have hl := lv_sub (l' := []) hl [] rfl
            obtain ⟨hd, h⟩ := h
            refine lv_iconst (v := 1) G.1 G.2.1 d_Mo_classStep_143 (by decide) ?_
            refine W.eq (g2 := F0 m 144 ls [.int 1]) rfl ?_
            exact hret _ (y_29, s_28, d_j123 + d_30, e_j123 + e_31) _ _ _ _ _ ls h hP hD hS (Nat.le_refl _) (Nat.le_refl _) hd.1 hd.2 d_Mo_classStep_144
      have J_111 : ∀ (y_j111 : Ly) (s_j111 : St) (d_j111 e_j111 : Nat) (x1j111 : Int32) (x3j111 : Int32) (x4j111 : Int32) (x5j111 : Int32) (x7j111 : Int32) (H : Heap) (locs : List Loc), wja_Mo_classStep_111 mc ms Post a0 y_j111 s_j111 d_j111 e_j111 x1j111 x3j111 x4j111 x5j111 x7j111 → va_P D CL (ws g ad y_j111 s_j111) H → va_D A (ws g ad y_j111 s_j111) → va_S A s.heap H locs → ∀ ls, lv_has ls 8 [(0, .ref (ad a0)), (1, .int x1j111), (3, .int x3j111), (4, .int x4j111), (5, .int x5j111), (7, .int x7j111)] → W p l e (ra_Mo_classStep mc ms) s m args below meth c H locs d_j111 e_j111 Q (F0 m 111 ls []) := by
        intro y_j111 s_j111 d_j111 e_j111 x1j111 x3j111 x4j111 x5j111 x7j111 H locs h hP hD hS ls hl
        unfold wja_Mo_classStep_111 at h
        obtain ⟨hd, h⟩ := h
        refine lv_aload_n G.1 G.2.1 d_Mo_classStep_111 rfl (lv_at hl 0 rfl) ?_
        refine lv_aload_n G.1 G.2.1 d_Mo_classStep_112 rfl (lv_at hl 0 rfl) ?_
        refine lv_iload G.1 G.2.1 d_Mo_classStep_113 (lv_at hl 4 rfl) ?_
        refine ucVi (As := [.int x5j111]) (rest := [.ref (ad a0)]) G hP hD hS (cu_Mo_classOfRef l D g ad y_j111 _ s_j111 a0 x5j111 H.size h_a0 h) w9_Mo_classOfRef q3899 ⟨Nat.le_of_ble_eq_true rfl, Nat.le_of_ble_eq_true rfl⟩ rfl rfl h_a0 (q := (RMo, TMo, 131)) rfl rfl hl.1 rfl (Nat.le_of_ble_eq_true rfl) rfl hd d_Mo_classStep_115 (fun r_35 s_36 H locs h hP hD hS => ?_)
        refine lv_iload G.1 G.2.1 d_Mo_classStep_118 (lv_at hl 5 rfl) ?_
        refine ucVi (As := [.int r_35, .int x7j111]) (rest := []) G hP hD hS (cu_Mo_isBelow l D g ad y_j111 _ s_36 a0 r_35 x7j111 H.size h_a0 h) w9_Mo_isBelow q3903 ⟨Nat.le_of_ble_eq_true rfl, Nat.le_of_ble_eq_true rfl⟩ rfl rfl h_a0 (q := (RMo, TMo, 131)) rfl rfl hl.1 rfl (Nat.le_of_ble_eq_true rfl) rfl hd d_Mo_classStep_120 (fun r_37 s_38 H locs h hP hD hS => ?_)
        exact J_123 y_j111 s_38 d_j111 e_j111 x1j111 x3j111 x4j111 r_37 H locs h hP hD hS ls (lv_sub hl [0, 1, 2, 3] rfl)
      refine lv_icmp_ge (tgt := 111) G.1 G.2.1 d_Mo_classStep_81 (by decide) (fun c81 => ?_) (fun c81 => ?_)
      · skip
        have h := h.1 c81
        exact J_111 y s_26 0 0 v1 v3 ((((44 * v1) + 20) + x_6) - 1) x_7 r_25 H locs h hP hD hS ls (lv_sub hl [4, 5, 7, 3, 2, 0] rfl)
      · skip
        have h := h.2 c81
        refine lv_aload_n G.1 G.2.1 d_Mo_classStep_84 rfl (lv_at hl 4 rfl) ?_
        obtain ⟨b_39, e_40, c_41, h⟩ := h
        refine ugf (v := .ref (ad b_39)) G hP h_a0 iMo rfl 45 (by decide) rfl q3109 rfl (by show va_rf ((sO s_26 a0 45).map ad) = _; rw [e_40]; rfl) d_Mo_classStep_85 ?_
        refine ugfN (v := .ref (yP y b_39 45)) G hP c_41 iMw rfl 45 (by decide) rfl q2790 rfl rfl d_Mo_classStep_88 ?_
        refine lv_iload G.1 G.2.1 d_Mo_classStep_91 (lv_at hl 2 rfl) ?_
        refine uiald G hP (kdp c_41 rfl) (typ c_41 rfl) h d_Mo_classStep_93 (fun x_42 h => ?_)
        refine lv_iconst (v := (-1)) G.1 G.2.1 d_Mo_classStep_94 (by decide) ?_
        refine lv_icmp_ne (tgt := 111) G.1 G.2.1 d_Mo_classStep_95 (by decide) (fun c95 => ?_) (fun c95 => ?_)
        · skip
          have h := h.1 c95
          exact J_111 y s_26 0 0 v1 v3 ((((44 * v1) + 20) + x_6) - 1) x_7 r_25 H locs h hP hD hS ls (lv_sub hl [4, 5, 7, 3, 2, 0] rfl)
        · skip
          have h := h.2 c95
          refine W.eq (g2 := F0 m 98 ls []) rfl ?_
          refine lv_iload G.1 G.2.1 d_Mo_classStep_98 (lv_at hl 0 rfl) ?_
          refine lv_if_ne (tgt := 107) G.1 G.2.1 d_Mo_classStep_100 (by decide) (fun c100 => ?_) (fun c100 => ?_)
          · skip
            have h := h.1 c100
            refine lv_iconst (v := 0) G.1 G.2.1 d_Mo_classStep_107 (by decide) ?_
            refine lv_goto (tgt := 123) G.1 G.2.1 d_Mo_classStep_108 (by decide) ?_
            exact J_123 y s_26 0 0 v1 v3 ((((44 * v1) + 20) + x_6) - 1) 0 H locs h hP hD hS ls (lv_sub hl [4, 5, 7, 3] rfl)
          · skip
            have h := h.2 c100
            refine lv_iconst (v := 1) G.1 G.2.1 d_Mo_classStep_103 (by decide) ?_
            refine lv_goto (tgt := 123) G.1 G.2.1 d_Mo_classStep_104 (by decide) ?_
            exact J_123 y s_26 0 0 v1 v3 ((((44 * v1) + 20) + x_6) - 1) 1 H locs h hP hD hS ls (lv_sub hl [4, 5, 7, 3] rfl)
    · skip
      have h := h.2 c63
      refine lv_aload_n G.1 G.2.1 d_Mo_classStep_66 rfl (lv_at hl 4 rfl) ?_
      refine lv_bipush (v := 50) G.1 G.2.1 d_Mo_classStep_67 (by decide) ?_
      refine lv_bipush (v := 11) G.1 G.2.1 d_Mo_classStep_69 (by decide) ?_
      obtain ⟨mc_48, ms_49, hr_50, h⟩ := h
      refine uaVv (As := [.int 50, .int 11]) (rest := []) G hP hD hS (ca_Mo_throwNew l D g ad mc_48 ms_49 y _ s_26 a0 50 11 H.size (us H) h_a0 h) w9_Mo_throwNew q3883 ⟨Nat.le_of_ble_eq_true rfl, Nat.le_of_ble_eq_true rfl⟩ rfl rfl h_a0 (q := (RMo, TMo, 131)) rfl rfl hl.1 rfl (Nat.le_of_ble_eq_true rfl) rfl hr_50 d_Mo_classStep_71 (fun y_45 s_44 d_46 e_47 H locs h hP hD hS => ?_)
      have hl := lv_sub (l' := []) hl [] rfl
      obtain ⟨hd, h⟩ := h
      refine lv_iconst (v := 1) G.1 G.2.1 d_Mo_classStep_74 (by decide) ?_
      exact hret _ (y_45, s_44, 0 + d_46, 0 + e_47) _ _ _ _ _ ls h hP hD hS (Nat.le_refl _) (Nat.le_refl _) hd.1 hd.2 d_Mo_classStep_75
theorem q3987 : Cond.methodLink "ClassWorksModel" 1093 y_Mo_lock ∈ lw_ok := lw_okmem (List.mem_of_getElem? (i := 3987) (by decide +kernel)) rfl
theorem q3990 : Cond.code y_Mo_lock b_Mo_lock 3 (none) ∈ lw_ok := lw_okmem (List.mem_of_getElem? (i := 3990) (by decide +kernel)) rfl
theorem q3989 : Cond.instanceMethod y_Mo_lock ∈ lw_ok := lw_okmem (List.mem_of_getElem? (i := 3989) (by decide +kernel)) rfl
theorem q286 : Cond.selects y_Mo_lock.cls y_Mo_lock y_Mo_lock ∈ lw_ok := lw_okmem (List.mem_of_getElem? (i := 286) (by decide +kernel)) rfl
theorem w9_Mo_lock : CWv y_Mo_lock b_Mo_lock 3 (none) 2 ∧ Cond.instanceMethod y_Mo_lock ∈ lw_ok ∧ Cond.selects y_Mo_lock.cls y_Mo_lock y_Mo_lock ∈ lw_ok := ⟨⟨q3990, q348, by decide +kernel, by decide +kernel, by decide +kernel⟩, q3989, q286⟩
def y_Mo_lockStep : MethodName := ⟨"ClassWorksModel", "lockStep", "(II)I"⟩
abbrev b_Mo_lockStep : ByteArray := prog_14_method_119_code
theorem d_Mo_lockStep_0 : decode b_Mo_lockStep 0 = .ok (.aload_n 0, 1) := by decide +kernel
theorem d_Mo_lockStep_1 : decode b_Mo_lockStep 1 = .ok (.getfield 917, 3) := by decide +kernel
theorem d_Mo_lockStep_4 : decode b_Mo_lockStep 4 = .ok (.getfield 936, 3) := by decide +kernel
theorem d_Mo_lockStep_7 : decode b_Mo_lockStep 7 = .ok (.bipush 44, 2) := by decide +kernel
theorem d_Mo_lockStep_9 : decode b_Mo_lockStep 9 = .ok (.iload_n 1, 1) := by decide +kernel
theorem d_Mo_lockStep_10 : decode b_Mo_lockStep 10 = .ok (.imul, 1) := by decide +kernel
theorem d_Mo_lockStep_11 : decode b_Mo_lockStep 11 = .ok (.bipush 20, 2) := by decide +kernel
theorem d_Mo_lockStep_13 : decode b_Mo_lockStep 13 = .ok (.iadd, 1) := by decide +kernel
theorem d_Mo_lockStep_14 : decode b_Mo_lockStep 14 = .ok (.aload_n 0, 1) := by decide +kernel
theorem d_Mo_lockStep_15 : decode b_Mo_lockStep 15 = .ok (.getfield 917, 3) := by decide +kernel
theorem d_Mo_lockStep_18 : decode b_Mo_lockStep 18 = .ok (.getfield 933, 3) := by decide +kernel
theorem d_Mo_lockStep_21 : decode b_Mo_lockStep 21 = .ok (.iload_n 1, 1) := by decide +kernel
theorem d_Mo_lockStep_22 : decode b_Mo_lockStep 22 = .ok (.iaload, 1) := by decide +kernel
theorem d_Mo_lockStep_23 : decode b_Mo_lockStep 23 = .ok (.iadd, 1) := by decide +kernel
theorem d_Mo_lockStep_24 : decode b_Mo_lockStep 24 = .ok (.iconst 1, 1) := by decide +kernel
theorem d_Mo_lockStep_25 : decode b_Mo_lockStep 25 = .ok (.isub, 1) := by decide +kernel
theorem d_Mo_lockStep_26 : decode b_Mo_lockStep 26 = .ok (.iaload, 1) := by decide +kernel
theorem d_Mo_lockStep_27 : decode b_Mo_lockStep 27 = .ok (.istore_n 3, 1) := by decide +kernel
theorem d_Mo_lockStep_28 : decode b_Mo_lockStep 28 = .ok (.iload_n 3, 1) := by decide +kernel
theorem d_Mo_lockStep_29 : decode b_Mo_lockStep 29 = .ok (.ifCond .eq 27, 3) := by decide +kernel
theorem d_Mo_lockStep_32 : decode b_Mo_lockStep 32 = .ok (.aload_n 0, 1) := by decide +kernel
theorem d_Mo_lockStep_33 : decode b_Mo_lockStep 33 = .ok (.iload_n 3, 1) := by decide +kernel
theorem d_Mo_lockStep_34 : decode b_Mo_lockStep 34 = .ok (.invokevirtual 1087, 3) := by decide +kernel
theorem d_Mo_lockStep_37 : decode b_Mo_lockStep 37 = .ok (.ifCond .le 19, 3) := by decide +kernel
theorem d_Mo_lockStep_40 : decode b_Mo_lockStep 40 = .ok (.aload_n 0, 1) := by decide +kernel
theorem d_Mo_lockStep_41 : decode b_Mo_lockStep 41 = .ok (.iload_n 3, 1) := by decide +kernel
theorem d_Mo_lockStep_42 : decode b_Mo_lockStep 42 = .ok (.invokevirtual 1090, 3) := by decide +kernel
theorem d_Mo_lockStep_45 : decode b_Mo_lockStep 45 = .ok (.aload_n 0, 1) := by decide +kernel
theorem d_Mo_lockStep_46 : decode b_Mo_lockStep 46 = .ok (.getfield 908, 3) := by decide +kernel
theorem d_Mo_lockStep_49 : decode b_Mo_lockStep 49 = .ok (.if_icmp .eq 7, 3) := by decide +kernel
theorem d_Mo_lockStep_52 : decode b_Mo_lockStep 52 = .ok (.iconst 1, 1) := by decide +kernel
theorem d_Mo_lockStep_53 : decode b_Mo_lockStep 53 = .ok (.goto 4, 3) := by decide +kernel
theorem d_Mo_lockStep_56 : decode b_Mo_lockStep 56 = .ok (.iconst 0, 1) := by decide +kernel
theorem d_Mo_lockStep_57 : decode b_Mo_lockStep 57 = .ok (.istore 4, 2) := by decide +kernel
theorem d_Mo_lockStep_59 : decode b_Mo_lockStep 59 = .ok (.iload_n 2, 1) := by decide +kernel
theorem d_Mo_lockStep_60 : decode b_Mo_lockStep 60 = .ok (.bipush 60, 2) := by decide +kernel
theorem d_Mo_lockStep_62 : decode b_Mo_lockStep 62 = .ok (.if_icmp .ne 18, 3) := by decide +kernel
theorem d_Mo_lockStep_65 : decode b_Mo_lockStep 65 = .ok (.iload 4, 2) := by decide +kernel
theorem d_Mo_lockStep_67 : decode b_Mo_lockStep 67 = .ok (.ifCond .eq 13, 3) := by decide +kernel
theorem d_Mo_lockStep_70 : decode b_Mo_lockStep 70 = .ok (.aload_n 0, 1) := by decide +kernel
theorem d_Mo_lockStep_71 : decode b_Mo_lockStep 71 = .ok (.getfield 917, 3) := by decide +kernel
theorem d_Mo_lockStep_74 : decode b_Mo_lockStep 74 = .ok (.iload_n 3, 1) := by decide +kernel
theorem d_Mo_lockStep_75 : decode b_Mo_lockStep 75 = .ok (.putfield 992, 3) := by decide +kernel
theorem d_Mo_lockStep_78 : decode b_Mo_lockStep 78 = .ok (.iconst 2, 1) := by decide +kernel
theorem d_Mo_lockStep_79 : decode b_Mo_lockStep 79 = .ok (.ireturn, 1) := by decide +kernel
theorem d_Mo_lockStep_80 : decode b_Mo_lockStep 80 = .ok (.aload_n 0, 1) := by decide +kernel
theorem d_Mo_lockStep_81 : decode b_Mo_lockStep 81 = .ok (.iload_n 2, 1) := by decide +kernel
theorem d_Mo_lockStep_82 : decode b_Mo_lockStep 82 = .ok (.invokevirtual 1032, 3) := by decide +kernel
theorem d_Mo_lockStep_85 : decode b_Mo_lockStep 85 = .ok (.iload_n 3, 1) := by decide +kernel
theorem d_Mo_lockStep_86 : decode b_Mo_lockStep 86 = .ok (.ifCond .ne 12, 3) := by decide +kernel
theorem d_Mo_lockStep_89 : decode b_Mo_lockStep 89 = .ok (.aload_n 0, 1) := by decide +kernel
theorem d_Mo_lockStep_90 : decode b_Mo_lockStep 90 = .ok (.iconst 0, 1) := by decide +kernel
theorem d_Mo_lockStep_91 : decode b_Mo_lockStep 91 = .ok (.iconst 2, 1) := by decide +kernel
theorem d_Mo_lockStep_92 : decode b_Mo_lockStep 92 = .ok (.invokevirtual 1001, 3) := by decide +kernel
theorem d_Mo_lockStep_95 : decode b_Mo_lockStep 95 = .ok (.goto 73, 3) := by decide +kernel
theorem d_Mo_lockStep_98 : decode b_Mo_lockStep 98 = .ok (.iload_n 2, 1) := by decide +kernel
theorem d_Mo_lockStep_99 : decode b_Mo_lockStep 99 = .ok (.bipush 61, 2) := by decide +kernel
theorem d_Mo_lockStep_101 : decode b_Mo_lockStep 101 = .ok (.if_icmp .ne 26, 3) := by decide +kernel
theorem d_Mo_lockStep_104 : decode b_Mo_lockStep 104 = .ok (.iload 4, 2) := by decide +kernel
theorem d_Mo_lockStep_106 : decode b_Mo_lockStep 106 = .ok (.ifCond .ne 11, 3) := by decide +kernel
theorem d_Mo_lockStep_109 : decode b_Mo_lockStep 109 = .ok (.aload_n 0, 1) := by decide +kernel
theorem d_Mo_lockStep_110 : decode b_Mo_lockStep 110 = .ok (.iload_n 3, 1) := by decide +kernel
theorem d_Mo_lockStep_111 : decode b_Mo_lockStep 111 = .ok (.invokevirtual 1087, 3) := by decide +kernel
theorem d_Mo_lockStep_114 : decode b_Mo_lockStep 114 = .ok (.ifCond .ne 13, 3) := by decide +kernel
theorem d_Mo_lockStep_117 : decode b_Mo_lockStep 117 = .ok (.aload_n 0, 1) := by decide +kernel
theorem d_Mo_lockStep_118 : decode b_Mo_lockStep 118 = .ok (.iconst 0, 1) := by decide +kernel
theorem d_Mo_lockStep_119 : decode b_Mo_lockStep 119 = .ok (.bipush 7, 2) := by decide +kernel
theorem d_Mo_lockStep_121 : decode b_Mo_lockStep 121 = .ok (.invokevirtual 1001, 3) := by decide +kernel
theorem d_Mo_lockStep_124 : decode b_Mo_lockStep 124 = .ok (.goto 44, 3) := by decide +kernel
theorem d_Mo_lockStep_127 : decode b_Mo_lockStep 127 = .ok (.aload_n 0, 1) := by decide +kernel
theorem d_Mo_lockStep_128 : decode b_Mo_lockStep 128 = .ok (.iload_n 3, 1) := by decide +kernel
theorem d_Mo_lockStep_129 : decode b_Mo_lockStep 129 = .ok (.aload_n 0, 1) := by decide +kernel
theorem d_Mo_lockStep_130 : decode b_Mo_lockStep 130 = .ok (.iload_n 3, 1) := by decide +kernel
theorem d_Mo_lockStep_131 : decode b_Mo_lockStep 131 = .ok (.invokevirtual 1087, 3) := by decide +kernel
theorem d_Mo_lockStep_134 : decode b_Mo_lockStep 134 = .ok (.iload_n 2, 1) := by decide +kernel
theorem d_Mo_lockStep_135 : decode b_Mo_lockStep 135 = .ok (.bipush 60, 2) := by decide +kernel
theorem d_Mo_lockStep_137 : decode b_Mo_lockStep 137 = .ok (.if_icmp .ne 7, 3) := by decide +kernel
theorem d_Mo_lockStep_140 : decode b_Mo_lockStep 140 = .ok (.iconst 1, 1) := by decide +kernel
theorem d_Mo_lockStep_141 : decode b_Mo_lockStep 141 = .ok (.goto 4, 3) := by decide +kernel
theorem d_Mo_lockStep_144 : decode b_Mo_lockStep 144 = .ok (.iconst (-1), 1) := by decide +kernel
theorem d_Mo_lockStep_145 : decode b_Mo_lockStep 145 = .ok (.iadd, 1) := by decide +kernel
theorem d_Mo_lockStep_146 : decode b_Mo_lockStep 146 = .ok (.invokevirtual 1093, 3) := by decide +kernel
theorem d_Mo_lockStep_149 : decode b_Mo_lockStep 149 = .ok (.aload_n 0, 1) := by decide +kernel
theorem d_Mo_lockStep_150 : decode b_Mo_lockStep 150 = .ok (.iload_n 1, 1) := by decide +kernel
theorem d_Mo_lockStep_151 : decode b_Mo_lockStep 151 = .ok (.invokevirtual 1057, 3) := by decide +kernel
theorem d_Mo_lockStep_154 : decode b_Mo_lockStep 154 = .ok (.pop, 1) := by decide +kernel
theorem d_Mo_lockStep_155 : decode b_Mo_lockStep 155 = .ok (.aload_n 0, 1) := by decide +kernel
theorem d_Mo_lockStep_156 : decode b_Mo_lockStep 156 = .ok (.getfield 917, 3) := by decide +kernel
theorem d_Mo_lockStep_159 : decode b_Mo_lockStep 159 = .ok (.getfield 930, 3) := by decide +kernel
theorem d_Mo_lockStep_162 : decode b_Mo_lockStep 162 = .ok (.iload_n 1, 1) := by decide +kernel
theorem d_Mo_lockStep_163 : decode b_Mo_lockStep 163 = .ok (.dup2, 1) := by decide +kernel
theorem d_Mo_lockStep_164 : decode b_Mo_lockStep 164 = .ok (.iaload, 1) := by decide +kernel
theorem d_Mo_lockStep_165 : decode b_Mo_lockStep 165 = .ok (.iconst 1, 1) := by decide +kernel
theorem d_Mo_lockStep_166 : decode b_Mo_lockStep 166 = .ok (.iadd, 1) := by decide +kernel
theorem d_Mo_lockStep_167 : decode b_Mo_lockStep 167 = .ok (.iastore, 1) := by decide +kernel
theorem d_Mo_lockStep_168 : decode b_Mo_lockStep 168 = .ok (.iconst 1, 1) := by decide +kernel
theorem d_Mo_lockStep_169 : decode b_Mo_lockStep 169 = .ok (.ireturn, 1) := by decide +kernel
abbrev ra_Mo_lockStep (mc ms : Nat) : Room := { frames := 8, cells := mc, slots := ms, locals := 220 }
def wja_Mo_lockStep_168 (mc ms : Nat) (Post : Ly → St → Int32 → Nat → Nat → Prop) (a0 : Nat) (y_j168 : Ly) (s_j168 : St) (d_j168 e_j168 : Nat) : Prop := (d_j168 ≤ mc ∧ e_j168 ≤ ms) ∧ Post y_j168 s_j168 1 d_j168 e_j168
def wja_Mo_lockStep_145 (mc ms : Nat) (Post : Ly → St → Int32 → Nat → Nat → Prop) (a0 : Nat) (y_j145 : Ly) (s_j145 : St) (d_j145 e_j145 : Nat) (x1j145 : Int32) (z1j145 : Int32) (z2j145 : Int32) (z3j145 : Int32) : Prop := (d_j145 ≤ mc ∧ e_j145 ≤ ms) ∧ wu_Mo_lock y_j145 (fun (s_11 : St) => wu_Mo_pop y_j145 (fun (s_13 : St) (r_12 : Int32) => ∃ b_14 : Nat, sO s_13 a0 46 = some b_14 ∧ cl b_14 = 12 ∧ xA y_j145 s_13 b_14 18 x1j145 (fun x_17 : Int32 => xS y_j145 s_13 b_14 18 x1j145 (x_17 + 1) (fun s_18 : St => wja_Mo_lockStep_168 mc ms Post a0 y_j145 s_18 d_j145 e_j145))) s_11 a0 x1j145) s_j145 a0 z1j145 (z2j145 + z3j145)
def wja_Mo_lockStep_127 (mc ms : Nat) (Post : Ly → St → Int32 → Nat → Nat → Prop) (a0 : Nat) (y_j127 : Ly) (s_j127 : St) (d_j127 e_j127 : Nat) (x1j127 : Int32) (x2j127 : Int32) (x3j127 : Int32) : Prop := (d_j127 ≤ mc ∧ e_j127 ≤ ms) ∧ wu_Mo_locksOf y_j127 (fun (s_9 : St) (r_8 : Int32) => ((¬ x2j127 = 60 → wja_Mo_lockStep_145 mc ms Post a0 y_j127 s_9 d_j127 e_j127 x1j127 x3j127 r_8 (-1)) ∧ (x2j127 = 60 → wja_Mo_lockStep_145 mc ms Post a0 y_j127 s_9 d_j127 e_j127 x1j127 x3j127 r_8 1))) s_j127 a0 x3j127
def wja_Mo_lockStep_117 (mc ms : Nat) (Post : Ly → St → Int32 → Nat → Nat → Prop) (a0 : Nat) (y_j117 : Ly) (s_j117 : St) (d_j117 e_j117 : Nat) : Prop := (d_j117 ≤ mc ∧ e_j117 ≤ ms) ∧ ∃ mc_24 ms_25 : Nat, (d_j117 + mc_24 ≤ mc ∧ e_j117 + ms_25 ≤ ms) ∧ wa_Mo_throwNew mc_24 ms_25 y_j117 (fun (y_21 : Ly) (s_20 : St) (d_22 e_23 : Nat) => (d_j117 + d_22 ≤ mc ∧ e_j117 + e_23 ≤ ms) ∧ wja_Mo_lockStep_168 mc ms Post a0 y_21 s_20 (d_j117 + d_22) (e_j117 + e_23)) s_j117 a0 0 7
def wja_Mo_lockStep_80 (mc ms : Nat) (Post : Ly → St → Int32 → Nat → Nat → Prop) (a0 : Nat) (y_j80 : Ly) (s_j80 : St) (d_j80 e_j80 : Nat) (x1j80 : Int32) (x2j80 : Int32) (x3j80 : Int32) (x4j80 : Int32) : Prop := (d_j80 ≤ mc ∧ e_j80 ≤ ms) ∧ wu_Mo_tally y_j80 (fun (s_7 : St) => ((¬ x3j80 = 0 → ((¬ x2j80 = 61 → wja_Mo_lockStep_127 mc ms Post a0 y_j80 s_7 d_j80 e_j80 x1j80 x2j80 x3j80) ∧ (x2j80 = 61 → ((¬ x4j80 = 0 → wja_Mo_lockStep_117 mc ms Post a0 y_j80 s_7 d_j80 e_j80) ∧ (x4j80 = 0 → wu_Mo_locksOf y_j80 (fun (s_28 : St) (r_27 : Int32) => ((¬ r_27 = 0 → wja_Mo_lockStep_127 mc ms Post a0 y_j80 s_28 d_j80 e_j80 x1j80 x2j80 x3j80) ∧ (r_27 = 0 → wja_Mo_lockStep_117 mc ms Post a0 y_j80 s_28 d_j80 e_j80))) s_7 a0 x3j80))))) ∧ (x3j80 = 0 → ∃ mc_34 ms_35 : Nat, (d_j80 + mc_34 ≤ mc ∧ e_j80 + ms_35 ≤ ms) ∧ wa_Mo_throwNew mc_34 ms_35 y_j80 (fun (y_31 : Ly) (s_30 : St) (d_32 e_33 : Nat) => (d_j80 + d_32 ≤ mc ∧ e_j80 + e_33 ≤ ms) ∧ wja_Mo_lockStep_168 mc ms Post a0 y_31 s_30 (d_j80 + d_32) (e_j80 + e_33)) s_7 a0 0 2))) s_j80 a0 x2j80
def wja_Mo_lockStep_57 (mc ms : Nat) (Post : Ly → St → Int32 → Nat → Nat → Prop) (a0 : Nat) (y_j57 : Ly) (s_j57 : St) (d_j57 e_j57 : Nat) (x1j57 : Int32) (x2j57 : Int32) (x3j57 : Int32) (z0j57 : Int32) : Prop := (d_j57 ≤ mc ∧ e_j57 ≤ ms) ∧ ((¬ x2j57 = 60 → wja_Mo_lockStep_80 mc ms Post a0 y_j57 s_j57 d_j57 e_j57 x1j57 x2j57 x3j57 z0j57) ∧ (x2j57 = 60 → ((z0j57 = 0 → wja_Mo_lockStep_80 mc ms Post a0 y_j57 s_j57 d_j57 e_j57 x1j57 x2j57 x3j57 z0j57) ∧ (¬ (z0j57 = 0) → ∃ b_37 : Nat, sO s_j57 a0 46 = some b_37 ∧ cl b_37 = 12 ∧ xP (uV s_j57 b_37 2 x3j57) (fun s_40 : St => Post y_j57 s_40 2 d_j57 e_j57)))))
def wja_Mo_lockStep_56 (mc ms : Nat) (Post : Ly → St → Int32 → Nat → Nat → Prop) (a0 : Nat) (y_j56 : Ly) (s_j56 : St) (d_j56 e_j56 : Nat) (x1j56 : Int32) (x2j56 : Int32) (x3j56 : Int32) : Prop := (d_j56 ≤ mc ∧ e_j56 ≤ ms) ∧ wja_Mo_lockStep_57 mc ms Post a0 y_j56 s_j56 d_j56 e_j56 x1j56 x2j56 x3j56 0
def wa_Mo_lockStep (mc ms : Nat) (y : Ly) (Post : Ly → St → Int32 → Nat → Nat → Prop) (σ : St) (a0 : Nat) (v1 : Int32) (v2 : Int32) : Prop := ∃ b_1 : Nat, sO σ a0 46 = some b_1 ∧ cl b_1 = 12 ∧ xA y σ b_1 19 v1 (fun x_4 : Int32 => xA y σ b_1 20 ((((44 * v1) + 20) + x_4) - 1) (fun x_5 : Int32 => ((x_5 = 0 → wja_Mo_lockStep_56 mc ms Post a0 y σ 0 0 v1 v2 x_5) ∧ (¬ (x_5 = 0) → wu_Mo_locksOf y (fun (s_42 : St) (r_41 : Int32) => ((r_41 ≤ 0 → wja_Mo_lockStep_56 mc ms Post a0 y s_42 0 0 v1 v2 x_5) ∧ (¬ (r_41 ≤ 0) → wu_Mo_ownerOf y (fun (s_44 : St) (r_43 : Int32) => ((r_43 = (sV s_44 a0 47) → wja_Mo_lockStep_56 mc ms Post a0 y s_44 0 0 v1 v2 x_5) ∧ (¬ (r_43 = (sV s_44 a0 47)) → wja_Mo_lockStep_57 mc ms Post a0 y s_44 0 0 v1 v2 x_5 1))) s_42 a0 x_5))) σ a0 x_5))))
set_option maxHeartbeats 4000000 in
set_option maxRecDepth 100000 in
theorem ca_Mo_lockStep (l : Launch) (D : va_G) (g : Nat → ClassId) (ad : Nat → Nat) (mc ms : Nat) (y : Ly) (Post : Ly → St → Int32 → Nat → Nat → Prop) (σ : St) (a0 : Nat) (v1 : Int32) (v2 : Int32) (sz uz : Nat) (h_a0 : cl a0 = 14) (h : wa_Mo_lockStep mc ms y Post σ a0 v1 v2) : Met l y_Mo_lockStep (mw y_Mo_lockStep b_Mo_lockStep 5 (some .int)) (ra_Mo_lockStep mc ms) (PCu g D [] [.ref (ad a0), .int v1, .int v2] sz uz (ws g ad y σ)) (va_Qi (fun (r : Int32) (u : Ly × St × Nat × Nat) => Post u.1 u.2.1 r u.2.2.1 u.2.2.2) (QU D (va_A (ws g ad y σ) sz) (fun u => ws g ad u.1 u.2.1) sz uz (fun u => u.2.2.1) (fun u => u.2.2.2)) (va_A (ws g ad y σ) sz)) mc ms (va_A (ws g ad y σ) sz) := by
  refine ofIu (by decide +kernel) (Nat.le_of_ble_eq_true rfl) ?_
  intro p e s m args below meth c A Q ls H locs G hsz hP hD hS hl hret
  subst hsz
  have hl : lv_has ls 5 [(0, .ref (ad a0)), (1, .int v1), (2, .int v2)] := hl
  have hd : 0 ≤ mc ∧ 0 ≤ ms := ⟨Nat.zero_le _, Nat.zero_le _⟩
  unfold wa_Mo_lockStep at h
  refine lv_aload_n G.1 G.2.1 d_Mo_lockStep_0 rfl (lv_at hl 0 rfl) ?_
  obtain ⟨b_1, e_2, c_3, h⟩ := h
  refine ugf (v := .ref (ad b_1)) G hP h_a0 iMo rfl 46 (by decide) rfl q3110 rfl (by show va_rf ((sO σ a0 46).map ad) = _; rw [e_2]; rfl) d_Mo_lockStep_1 ?_
  refine ugfN (v := .ref (yP y b_1 20)) G hP c_3 iMr rfl 20 (by decide) rfl q3013 rfl rfl d_Mo_lockStep_4 ?_
  refine lv_bipush (v := 44) G.1 G.2.1 d_Mo_lockStep_7 (by decide) ?_
  refine lv_iload_n G.1 G.2.1 d_Mo_lockStep_9 rfl (lv_at hl 1 rfl) ?_
  refine lv_imul G.1 G.2.1 d_Mo_lockStep_10 ?_
  refine lv_bipush (v := 20) G.1 G.2.1 d_Mo_lockStep_11 (by decide) ?_
  refine lv_iadd G.1 G.2.1 d_Mo_lockStep_13 ?_
  refine lv_aload_n G.1 G.2.1 d_Mo_lockStep_14 rfl (lv_at hl 0 rfl) ?_
  refine ugf (v := .ref (ad b_1)) G hP h_a0 iMo rfl 46 (by decide) rfl q3110 rfl (by show va_rf ((sO σ a0 46).map ad) = _; rw [e_2]; rfl) d_Mo_lockStep_15 ?_
  refine ugfN (v := .ref (yP y b_1 19)) G hP c_3 iMr rfl 19 (by decide) rfl q3011 rfl rfl d_Mo_lockStep_18 ?_
  refine W.eq (g2 := F0 m 21 ls [.ref (yP y b_1 19), .int ((44 * v1) + 20), .ref (yP y b_1 20)]) rfl ?_
  refine lv_iload_n G.1 G.2.1 d_Mo_lockStep_21 rfl (lv_at hl 1 rfl) ?_
  refine uiald G hP (kdp c_3 rfl) (typ c_3 rfl) h d_Mo_lockStep_22 (fun x_4 h => ?_)
  refine lv_iadd G.1 G.2.1 d_Mo_lockStep_23 ?_
  refine lv_iconst (v := 1) G.1 G.2.1 d_Mo_lockStep_24 (by decide) ?_
  refine lv_isub G.1 G.2.1 d_Mo_lockStep_25 ?_
  refine uiald G hP (kdp c_3 rfl) (typ c_3 rfl) h d_Mo_lockStep_26 (fun x_5 h => ?_)
  refine lv_istore_n (lv' := [(3, .int x_5), (0, .ref (ad a0)), (1, .int v1), (2, .int v2)]) G.1 G.2.1 d_Mo_lockStep_27 rfl hl (by decide) rfl (fun ls hl => ?_)
  refine lv_iload_n G.1 G.2.1 d_Mo_lockStep_28 rfl (lv_at hl 0 rfl) ?_
  have J_57 : ∀ (y_j57 : Ly) (s_j57 : St) (d_j57 e_j57 : Nat) (x1j57 : Int32) (x2j57 : Int32) (x3j57 : Int32) (z0j57 : Int32) (H : Heap) (locs : List Loc), wja_Mo_lockStep_57 mc ms Post a0 y_j57 s_j57 d_j57 e_j57 x1j57 x2j57 x3j57 z0j57 → va_P D CL (ws g ad y_j57 s_j57) H → va_D A (ws g ad y_j57 s_j57) → va_S A s.heap H locs → ∀ ls, lv_has ls 5 [(0, .ref (ad a0)), (1, .int x1j57), (2, .int x2j57), (3, .int x3j57)] → W p l e (ra_Mo_lockStep mc ms) s m args below meth c H locs d_j57 e_j57 Q (F0 m 57 ls [.int z0j57]) := by
    intro y_j57 s_j57 d_j57 e_j57 x1j57 x2j57 x3j57 z0j57 H locs h hP hD hS ls hl
    unfold wja_Mo_lockStep_57 at h
    obtain ⟨hd, h⟩ := h
    refine lv_istore (lv' := [(4, .int z0j57), (0, .ref (ad a0)), (1, .int x1j57), (2, .int x2j57), (3, .int x3j57)]) G.1 G.2.1 d_Mo_lockStep_57 hl (by decide) rfl (fun ls hl => ?_)
    refine lv_iload_n G.1 G.2.1 d_Mo_lockStep_59 rfl (lv_at hl 3 rfl) ?_
    refine lv_bipush (v := 60) G.1 G.2.1 d_Mo_lockStep_60 (by decide) ?_
    have J_80 : ∀ (y_j80 : Ly) (s_j80 : St) (d_j80 e_j80 : Nat) (x1j80 : Int32) (x2j80 : Int32) (x3j80 : Int32) (x4j80 : Int32) (H : Heap) (locs : List Loc), wja_Mo_lockStep_80 mc ms Post a0 y_j80 s_j80 d_j80 e_j80 x1j80 x2j80 x3j80 x4j80 → va_P D CL (ws g ad y_j80 s_j80) H → va_D A (ws g ad y_j80 s_j80) → va_S A s.heap H locs → ∀ ls, lv_has ls 5 [(0, .ref (ad a0)), (1, .int x1j80), (2, .int x2j80), (3, .int x3j80), (4, .int x4j80)] → W p l e (ra_Mo_lockStep mc ms) s m args below meth c H locs d_j80 e_j80 Q (F0 m 80 ls []) := by
      intro y_j80 s_j80 d_j80 e_j80 x1j80 x2j80 x3j80 x4j80 H locs h hP hD hS ls hl
      unfold wja_Mo_lockStep_80 at h
      obtain ⟨hd, h⟩ := h
      refine lv_aload_n G.1 G.2.1 d_Mo_lockStep_80 rfl (lv_at hl 0 rfl) ?_
      refine lv_iload_n G.1 G.2.1 d_Mo_lockStep_81 rfl (lv_at hl 2 rfl) ?_
      refine ucVv (As := [.int x2j80]) (rest := []) G hP hD hS (cu_Mo_tally l D g ad y_j80 _ s_j80 a0 x2j80 H.size h_a0 h) w9_Mo_tally q3943 ⟨Nat.le_of_ble_eq_true rfl, Nat.le_of_ble_eq_true rfl⟩ rfl rfl h_a0 (q := (RMo, TMo, 131)) rfl rfl hl.1 rfl (Nat.le_of_ble_eq_true rfl) rfl hd d_Mo_lockStep_82 (fun s_7 H locs h hP hD hS => ?_)
      refine lv_iload_n G.1 G.2.1 d_Mo_lockStep_85 rfl (lv_at hl 3 rfl) ?_
      have J_168 : ∀ (y_j168 : Ly) (s_j168 : St) (d_j168 e_j168 : Nat) (H : Heap) (locs : List Loc), wja_Mo_lockStep_168 mc ms Post a0 y_j168 s_j168 d_j168 e_j168 → va_P D CL (ws g ad y_j168 s_j168) H → va_D A (ws g ad y_j168 s_j168) → va_S A s.heap H locs → ∀ ls, lv_has ls 5 [] → W p l e (ra_Mo_lockStep mc ms) s m args below meth c H locs d_j168 e_j168 Q (F0 m 168 ls []) := by
        intro y_j168 s_j168 d_j168 e_j168 H locs h hP hD hS ls hl
        unfold wja_Mo_lockStep_168 at h
        obtain ⟨hd, h⟩ := h
        refine lv_iconst (v := 1) G.1 G.2.1 d_Mo_lockStep_168 (by decide) ?_
        exact hret _ (y_j168, s_j168, d_j168, e_j168) _ _ _ _ _ ls h hP hD hS (Nat.le_refl _) (Nat.le_refl _) hd.1 hd.2 d_Mo_lockStep_169
      refine lv_if_ne (tgt := 98) G.1 G.2.1 d_Mo_lockStep_86 (by decide) (fun c86 => ?_) (fun c86 => ?_)
      · skip
        have h := h.1 c86
        refine lv_iload_n G.1 G.2.1 d_Mo_lockStep_98 rfl (lv_at hl 2 rfl) ?_
        refine lv_bipush (v := 61) G.1 G.2.1 d_Mo_lockStep_99 (by decide) ?_
        have J_127 : ∀ (y_j127 : Ly) (s_j127 : St) (d_j127 e_j127 : Nat) (x1j127 : Int32) (x2j127 : Int32) (x3j127 : Int32) (H : Heap) (locs : List Loc), wja_Mo_lockStep_127 mc ms Post a0 y_j127 s_j127 d_j127 e_j127 x1j127 x2j127 x3j127 → va_P D CL (ws g ad y_j127 s_j127) H → va_D A (ws g ad y_j127 s_j127) → va_S A s.heap H locs → ∀ ls, lv_has ls 5 [(0, .ref (ad a0)), (1, .int x1j127), (2, .int x2j127), (3, .int x3j127)] → W p l e (ra_Mo_lockStep mc ms) s m args below meth c H locs d_j127 e_j127 Q (F0 m 127 ls []) := by
          intro y_j127 s_j127 d_j127 e_j127 x1j127 x2j127 x3j127 H locs h hP hD hS ls hl
          unfold wja_Mo_lockStep_127 at h
          obtain ⟨hd, h⟩ := h
          refine lv_aload_n G.1 G.2.1 d_Mo_lockStep_127 rfl (lv_at hl 0 rfl) ?_
          refine lv_iload_n G.1 G.2.1 d_Mo_lockStep_128 rfl (lv_at hl 3 rfl) ?_
          refine lv_aload_n G.1 G.2.1 d_Mo_lockStep_129 rfl (lv_at hl 0 rfl) ?_
          refine lv_iload_n G.1 G.2.1 d_Mo_lockStep_130 rfl (lv_at hl 3 rfl) ?_
          refine ucVi (As := [.int x3j127]) (rest := [.int x3j127, .ref (ad a0)]) G hP hD hS (cu_Mo_locksOf l D g ad y_j127 _ s_j127 a0 x3j127 H.size h_a0 h) w9_Mo_locksOf q3839 ⟨Nat.le_of_ble_eq_true rfl, Nat.le_of_ble_eq_true rfl⟩ rfl rfl h_a0 (q := (RMo, TMo, 131)) rfl rfl hl.1 rfl (Nat.le_of_ble_eq_true rfl) rfl hd d_Mo_lockStep_131 (fun r_8 s_9 H locs h hP hD hS => ?_)
          refine lv_iload_n G.1 G.2.1 d_Mo_lockStep_134 rfl (lv_at hl 2 rfl) ?_
          refine lv_bipush (v := 60) G.1 G.2.1 d_Mo_lockStep_135 (by decide) ?_
          have J_145 : ∀ (y_j145 : Ly) (s_j145 : St) (d_j145 e_j145 : Nat) (x1j145 : Int32) (z1j145 : Int32) (z2j145 : Int32) (z3j145 : Int32) (H : Heap) (locs : List Loc), wja_Mo_lockStep_145 mc ms Post a0 y_j145 s_j145 d_j145 e_j145 x1j145 z1j145 z2j145 z3j145 → va_P D CL (ws g ad y_j145 s_j145) H → va_D A (ws g ad y_j145 s_j145) → va_S A s.heap H locs → ∀ ls, lv_has ls 5 [(0, .ref (ad a0)), (1, .int x1j145)] → W p l e (ra_Mo_lockStep mc ms) s m args below meth c H locs d_j145 e_j145 Q (F0 m 145 ls [.int z3j145, .int z2j145, .int z1j145, .ref (ad a0)]) := by
            intro y_j145 s_j145 d_j145 e_j145 x1j145 z1j145 z2j145 z3j145 H locs h hP hD hS ls hl
            unfold wja_Mo_lockStep_145 at h
            obtain ⟨hd, h⟩ := h
            refine lv_iadd G.1 G.2.1 d_Mo_lockStep_145 ?_
            refine ucVv (As := [.int z1j145, .int (z2j145 + z3j145)]) (rest := []) G hP hD hS (cu_Mo_lock l D g ad y_j145 _ s_j145 a0 z1j145 (z2j145 + z3j145) H.size h_a0 h) w9_Mo_lock q3987 ⟨Nat.le_of_ble_eq_true rfl, Nat.le_of_ble_eq_true rfl⟩ rfl rfl h_a0 (q := (RMo, TMo, 131)) rfl rfl hl.1 rfl (Nat.le_of_ble_eq_true rfl) rfl hd d_Mo_lockStep_146 (fun s_11 H locs h hP hD hS => ?_)
            refine lv_aload_n G.1 G.2.1 d_Mo_lockStep_149 rfl (lv_at hl 0 rfl) ?_
            refine lv_iload_n G.1 G.2.1 d_Mo_lockStep_150 rfl (lv_at hl 1 rfl) ?_
            refine ucVi (As := [.int x1j145]) (rest := []) G hP hD hS (cu_Mo_pop l D g ad y_j145 _ s_11 a0 x1j145 H.size h_a0 h) w9_Mo_pop q3947 ⟨Nat.le_of_ble_eq_true rfl, Nat.le_of_ble_eq_true rfl⟩ rfl rfl h_a0 (q := (RMo, TMo, 131)) rfl rfl hl.1 rfl (Nat.le_of_ble_eq_true rfl) rfl hd d_Mo_lockStep_151 (fun r_12 s_13 H locs h hP hD hS => ?_)
            refine lv_pop G.1 G.2.1 d_Mo_lockStep_154 rfl ?_
            refine lv_aload_n G.1 G.2.1 d_Mo_lockStep_155 rfl (lv_at hl 0 rfl) ?_
            obtain ⟨b_14, e_15, c_16, h⟩ := h
            refine ugf (v := .ref (ad b_14)) G hP h_a0 iMo rfl 46 (by decide) rfl q3110 rfl (by show va_rf ((sO s_13 a0 46).map ad) = _; rw [e_15]; rfl) d_Mo_lockStep_156 ?_
            refine ugfN (v := .ref (yP y_j145 b_14 18)) G hP c_16 iMr rfl 18 (by decide) rfl q3009 rfl rfl d_Mo_lockStep_159 ?_
            refine lv_iload_n G.1 G.2.1 d_Mo_lockStep_162 rfl (lv_at hl 1 rfl) ?_
            refine lv_dup2_11 G.1 G.2.1 d_Mo_lockStep_163 rfl rfl ?_
            refine W.eq (g2 := F0 m 164 ls [.int x1j145, .ref (yP y_j145 b_14 18), .int x1j145, .ref (yP y_j145 b_14 18)]) rfl ?_
            refine uiald G hP (kdp c_16 rfl) (typ c_16 rfl) h d_Mo_lockStep_164 (fun x_17 h => ?_)
            refine lv_iconst (v := 1) G.1 G.2.1 d_Mo_lockStep_165 (by decide) ?_
            refine lv_iadd G.1 G.2.1 d_Mo_lockStep_166 ?_
            refine uiast G hP hD hS (kdp c_16 rfl) (typ c_16 rfl) h d_Mo_lockStep_167 (fun s_18 H locs h hP hD hS => ?_)
            exact J_168 y_j145 s_18 d_j145 e_j145 H locs h hP hD hS ls (lv_sub hl [] rfl)
          refine lv_icmp_ne (tgt := 144) G.1 G.2.1 d_Mo_lockStep_137 (by decide) (fun c137 => ?_) (fun c137 => ?_)
          · skip
            have h := h.1 c137
            refine lv_iconst (v := (-1)) G.1 G.2.1 d_Mo_lockStep_144 (by decide) ?_
            exact J_145 y_j127 s_9 d_j127 e_j127 x1j127 x3j127 r_8 (-1) H locs h hP hD hS ls (lv_sub hl [0, 1] rfl)
          · skip
            have h := h.2 c137
            refine lv_iconst (v := 1) G.1 G.2.1 d_Mo_lockStep_140 (by decide) ?_
            refine lv_goto (tgt := 145) G.1 G.2.1 d_Mo_lockStep_141 (by decide) ?_
            exact J_145 y_j127 s_9 d_j127 e_j127 x1j127 x3j127 r_8 1 H locs h hP hD hS ls (lv_sub hl [0, 1] rfl)
        refine lv_icmp_ne (tgt := 127) G.1 G.2.1 d_Mo_lockStep_101 (by decide) (fun c101 => ?_) (fun c101 => ?_)
        · skip
          have h := h.1 c101
          exact J_127 y_j80 s_7 d_j80 e_j80 x1j80 x2j80 x3j80 H locs h hP hD hS ls (lv_sub hl [0, 1, 2, 3] rfl)
        · skip
          have h := h.2 c101
          refine lv_iload G.1 G.2.1 d_Mo_lockStep_104 (lv_at hl 4 rfl) ?_
          have J_117 : ∀ (y_j117 : Ly) (s_j117 : St) (d_j117 e_j117 : Nat) (H : Heap) (locs : List Loc), wja_Mo_lockStep_117 mc ms Post a0 y_j117 s_j117 d_j117 e_j117 → va_P D CL (ws g ad y_j117 s_j117) H → va_D A (ws g ad y_j117 s_j117) → va_S A s.heap H locs → ∀ ls, lv_has ls 5 [(0, .ref (ad a0))] → W p l e (ra_Mo_lockStep mc ms) s m args below meth c H locs d_j117 e_j117 Q (F0 m 117 ls []) := by
            intro y_j117 s_j117 d_j117 e_j117 H locs h hP hD hS ls hl
            unfold wja_Mo_lockStep_117 at h
            obtain ⟨hd, h⟩ := h
            refine lv_aload_n G.1 G.2.1 d_Mo_lockStep_117 rfl (lv_at hl 0 rfl) ?_
            refine lv_iconst (v := 0) G.1 G.2.1 d_Mo_lockStep_118 (by decide) ?_
            refine lv_bipush (v := 7) G.1 G.2.1 d_Mo_lockStep_119 (by decide) ?_
            obtain ⟨mc_24, ms_25, hr_26, h⟩ := h
            refine uaVv (As := [.int 0, .int 7]) (rest := []) G hP hD hS (ca_Mo_throwNew l D g ad mc_24 ms_25 y_j117 _ s_j117 a0 0 7 H.size (us H) h_a0 h) w9_Mo_throwNew q3883 ⟨Nat.le_of_ble_eq_true rfl, Nat.le_of_ble_eq_true rfl⟩ rfl rfl h_a0 (q := (RMo, TMo, 131)) rfl rfl hl.1 rfl (Nat.le_of_ble_eq_true rfl) rfl hr_26 d_Mo_lockStep_121 (fun y_21 s_20 d_22 e_23 H locs h hP hD hS => ?_)
            have hl := lv_sub (l' := []) hl [] rfl
            obtain ⟨hd, h⟩ := h
            refine lv_goto (tgt := 168) G.1 G.2.1 d_Mo_lockStep_124 (by decide) ?_
            exact J_168 y_21 s_20 (d_j117 + d_22) (e_j117 + e_23) H locs h hP hD hS ls (lv_sub hl [] rfl)
          refine lv_if_ne (tgt := 117) G.1 G.2.1 d_Mo_lockStep_106 (by decide) (fun c106 => ?_) (fun c106 => ?_)
          · skip
            have h := h.1 c106
            exact J_117 y_j80 s_7 d_j80 e_j80 H locs h hP hD hS ls (lv_sub hl [0] rfl)
          · skip
            have h := h.2 c106
            refine lv_aload_n G.1 G.2.1 d_Mo_lockStep_109 rfl (lv_at hl 0 rfl) ?_
            refine W.eq (g2 := F0 m 110 ls [.ref (ad a0)]) rfl ?_
            refine lv_iload_n G.1 G.2.1 d_Mo_lockStep_110 rfl (lv_at hl 3 rfl) ?_
            refine ucVi (As := [.int x3j80]) (rest := []) G hP hD hS (cu_Mo_locksOf l D g ad y_j80 _ s_7 a0 x3j80 H.size h_a0 h) w9_Mo_locksOf q3839 ⟨Nat.le_of_ble_eq_true rfl, Nat.le_of_ble_eq_true rfl⟩ rfl rfl h_a0 (q := (RMo, TMo, 131)) rfl rfl hl.1 rfl (Nat.le_of_ble_eq_true rfl) rfl hd d_Mo_lockStep_111 (fun r_27 s_28 H locs h hP hD hS => ?_)
            refine lv_if_ne (tgt := 127) G.1 G.2.1 d_Mo_lockStep_114 (by decide) (fun c114 => ?_) (fun c114 => ?_)
            · skip
              have h := h.1 c114
              exact J_127 y_j80 s_28 d_j80 e_j80 x1j80 x2j80 x3j80 H locs h hP hD hS ls (lv_sub hl [0, 1, 2, 3] rfl)
            · skip
              have h := h.2 c114
              exact J_117 y_j80 s_28 d_j80 e_j80 H locs h hP hD hS ls (lv_sub hl [0] rfl)
      · skip
        have h := h.2 c86
        refine lv_aload_n G.1 G.2.1 d_Mo_lockStep_89 rfl (lv_at hl 0 rfl) ?_
        refine lv_iconst (v := 0) G.1 G.2.1 d_Mo_lockStep_90 (by decide) ?_
        refine lv_iconst (v := 2) G.1 G.2.1 d_Mo_lockStep_91 (by decide) ?_
        obtain ⟨mc_34, ms_35, hr_36, h⟩ := h
        refine uaVv (As := [.int 0, .int 2]) (rest := []) G hP hD hS (ca_Mo_throwNew l D g ad mc_34 ms_35 y_j80 _ s_7 a0 0 2 H.size (us H) h_a0 h) w9_Mo_throwNew q3883 ⟨Nat.le_of_ble_eq_true rfl, Nat.le_of_ble_eq_true rfl⟩ rfl rfl h_a0 (q := (RMo, TMo, 131)) rfl rfl hl.1 rfl (Nat.le_of_ble_eq_true rfl) rfl hr_36 d_Mo_lockStep_92 (fun y_31 s_30 d_32 e_33 H locs h hP hD hS => ?_)
        have hl := lv_sub (l' := []) hl [] rfl
        obtain ⟨hd, h⟩ := h
        refine lv_goto (tgt := 168) G.1 G.2.1 d_Mo_lockStep_95 (by decide) ?_
        exact J_168 y_31 s_30 (d_j80 + d_32) (e_j80 + e_33) H locs h hP hD hS ls (lv_sub hl [] rfl)
    refine lv_icmp_ne (tgt := 80) G.1 G.2.1 d_Mo_lockStep_62 (by decide) (fun c62 => ?_) (fun c62 => ?_)
    · skip
      have h := h.1 c62
      exact J_80 y_j57 s_j57 d_j57 e_j57 x1j57 x2j57 x3j57 z0j57 H locs h hP hD hS ls (lv_sub hl [1, 2, 3, 4, 0] rfl)
    · skip
      have h := h.2 c62
      refine lv_iload G.1 G.2.1 d_Mo_lockStep_65 (lv_at hl 0 rfl) ?_
      refine lv_if_eq (tgt := 80) G.1 G.2.1 d_Mo_lockStep_67 (by decide) (fun c67 => ?_) (fun c67 => ?_)
      · skip
        have h := h.1 c67
        exact J_80 y_j57 s_j57 d_j57 e_j57 x1j57 x2j57 x3j57 z0j57 H locs h hP hD hS ls (lv_sub hl [1, 2, 3, 4, 0] rfl)
      · skip
        have h := h.2 c67
        refine lv_aload_n G.1 G.2.1 d_Mo_lockStep_70 rfl (lv_at hl 1 rfl) ?_
        obtain ⟨b_37, e_38, c_39, h⟩ := h
        refine ugf (v := .ref (ad b_37)) G hP h_a0 iMo rfl 46 (by decide) rfl q3110 rfl (by show va_rf ((sO s_j57 a0 46).map ad) = _; rw [e_38]; rfl) d_Mo_lockStep_71 ?_
        refine lv_iload_n G.1 G.2.1 d_Mo_lockStep_74 rfl (lv_at hl 4 rfl) ?_
        refine upfN G hP hD hS h 2 putV c_39 iMr tMr tMr_ok nMr rfl (by decide) rfl q2989 rfl rfl fV rfl rfl d_Mo_lockStep_75 (fun s_40 H locs h hP hD hS => ?_)
        refine lv_iconst (v := 2) G.1 G.2.1 d_Mo_lockStep_78 (by decide) ?_
        refine W.eq (g2 := F0 m 79 ls [.int 2]) rfl ?_
        exact hret _ (y_j57, s_40, d_j57, e_j57) _ _ _ _ _ ls h hP hD hS (Nat.le_refl _) (Nat.le_refl _) hd.1 hd.2 d_Mo_lockStep_79
  have J_56 : ∀ (y_j56 : Ly) (s_j56 : St) (d_j56 e_j56 : Nat) (x1j56 : Int32) (x2j56 : Int32) (x3j56 : Int32) (H : Heap) (locs : List Loc), wja_Mo_lockStep_56 mc ms Post a0 y_j56 s_j56 d_j56 e_j56 x1j56 x2j56 x3j56 → va_P D CL (ws g ad y_j56 s_j56) H → va_D A (ws g ad y_j56 s_j56) → va_S A s.heap H locs → ∀ ls, lv_has ls 5 [(0, .ref (ad a0)), (1, .int x1j56), (2, .int x2j56), (3, .int x3j56)] → W p l e (ra_Mo_lockStep mc ms) s m args below meth c H locs d_j56 e_j56 Q (F0 m 56 ls []) := by
    intro y_j56 s_j56 d_j56 e_j56 x1j56 x2j56 x3j56 H locs h hP hD hS ls hl
    unfold wja_Mo_lockStep_56 at h
    obtain ⟨hd, h⟩ := h
    refine lv_iconst (v := 0) G.1 G.2.1 d_Mo_lockStep_56 (by decide) ?_
    exact J_57 y_j56 s_j56 d_j56 e_j56 x1j56 x2j56 x3j56 0 H locs h hP hD hS ls (lv_sub hl [0, 1, 2, 3] rfl)
  refine lv_if_eq (tgt := 56) G.1 G.2.1 d_Mo_lockStep_29 (by decide) (fun c29 => ?_) (fun c29 => ?_)
  · skip
    have h := h.1 c29
    exact J_56 y σ 0 0 v1 v2 x_5 H locs h hP hD hS ls (lv_sub hl [1, 2, 3, 0] rfl)
  · skip
    have h := h.2 c29
    refine lv_aload_n G.1 G.2.1 d_Mo_lockStep_32 rfl (lv_at hl 1 rfl) ?_
    refine lv_iload_n G.1 G.2.1 d_Mo_lockStep_33 rfl (lv_at hl 0 rfl) ?_
    refine ucVi (As := [.int x_5]) (rest := []) G hP hD hS (cu_Mo_locksOf l D g ad y _ σ a0 x_5 H.size h_a0 h) w9_Mo_locksOf q3839 ⟨Nat.le_of_ble_eq_true rfl, Nat.le_of_ble_eq_true rfl⟩ rfl rfl h_a0 (q := (RMo, TMo, 131)) rfl rfl hl.1 rfl (Nat.le_of_ble_eq_true rfl) rfl hd d_Mo_lockStep_34 (fun r_41 s_42 H locs h hP hD hS => ?_)
    refine W.eq (g2 := F0 m 37 ls [.int r_41]) rfl ?_
    refine lv_if_le (tgt := 56) G.1 G.2.1 d_Mo_lockStep_37 (by decide) (fun c37 => ?_) (fun c37 => ?_)
    · skip
      have h := h.1 c37
      exact J_56 y s_42 0 0 v1 v2 x_5 H locs h hP hD hS ls (lv_sub hl [1, 2, 3, 0] rfl)
    · skip
      have h := h.2 c37
      refine lv_aload_n G.1 G.2.1 d_Mo_lockStep_40 rfl (lv_at hl 1 rfl) ?_
      refine lv_iload_n G.1 G.2.1 d_Mo_lockStep_41 rfl (lv_at hl 0 rfl) ?_
      refine ucVi (As := [.int x_5]) (rest := []) G hP hD hS (cu_Mo_ownerOf l D g ad y _ s_42 a0 x_5 H.size h_a0 h) w9_Mo_ownerOf q3843 ⟨Nat.le_of_ble_eq_true rfl, Nat.le_of_ble_eq_true rfl⟩ rfl rfl h_a0 (q := (RMo, TMo, 131)) rfl rfl hl.1 rfl (Nat.le_of_ble_eq_true rfl) rfl hd d_Mo_lockStep_42 (fun r_43 s_44 H locs h hP hD hS => ?_)
      refine lv_aload_n G.1 G.2.1 d_Mo_lockStep_45 rfl (lv_at hl 1 rfl) ?_
      refine ugf (v := .int (sV s_44 a0 47)) G hP h_a0 iMo rfl 47 (by decide) rfl q3111 rfl rfl d_Mo_lockStep_46 ?_
      refine lv_icmp_eq (tgt := 56) G.1 G.2.1 d_Mo_lockStep_49 (by decide) (fun c49 => ?_) (fun c49 => ?_)
      · skip
        have h := h.1 c49
        exact J_56 y s_44 0 0 v1 v2 x_5 H locs h hP hD hS ls (lv_sub hl [1, 2, 3, 0] rfl)
      · skip
        have h := h.2 c49
        refine lv_iconst (v := 1) G.1 G.2.1 d_Mo_lockStep_52 (by decide) ?_
        refine lv_goto (tgt := 57) G.1 G.2.1 d_Mo_lockStep_53 (by decide) ?_
        exact J_57 y s_44 0 0 v1 v2 x_5 1 H locs h hP hD hS ls (lv_sub hl [1, 2, 3, 0] rfl)
