def y_Mo_trial : MethodName := ⟨"ClassWorksModel", "trial", "()I"⟩
abbrev b_Mo_trial : ByteArray := prog_14_method_194_code
theorem q3089 : Cond.fieldLink "ClassWorksModel" 237 "ClassWorksModel" "kRun" "I" ∈ lw_ok := lw_okmem (List.mem_of_getElem? (i := 3089) (by decide +kernel)) rfl
theorem d_Mo_trial_0 : decode b_Mo_trial 0 = .ok (.aload_n 0, 1) := by decide +kernel
theorem d_Mo_trial_1 : decode b_Mo_trial 1 = .ok (.getfield 1314, 3) := by decide +kernel
theorem d_Mo_trial_4 : decode b_Mo_trial 4 = .ok (.bipush 40, 2) := by decide +kernel
theorem d_Mo_trial_6 : decode b_Mo_trial 6 = .ok (.if_icmp .eq 13, 3) := by decide +kernel
theorem d_Mo_trial_9 : decode b_Mo_trial 9 = .ok (.aload_n 0, 1) := by decide +kernel
theorem d_Mo_trial_10 : decode b_Mo_trial 10 = .ok (.getfield 1112, 3) := by decide +kernel
theorem d_Mo_trial_13 : decode b_Mo_trial 13 = .ok (.sipush 1200, 3) := by decide +kernel
theorem d_Mo_trial_16 : decode b_Mo_trial 16 = .ok (.if_icmp .le 6, 3) := by decide +kernel
theorem d_Mo_trial_19 : decode b_Mo_trial 19 = .ok (.bipush (-3), 2) := by decide +kernel
theorem d_Mo_trial_21 : decode b_Mo_trial 21 = .ok (.ireturn, 1) := by decide +kernel
theorem d_Mo_trial_22 : decode b_Mo_trial 22 = .ok (.iconst 0, 1) := by decide +kernel
theorem d_Mo_trial_23 : decode b_Mo_trial 23 = .ok (.istore_n 1, 1) := by decide +kernel
theorem d_Mo_trial_24 : decode b_Mo_trial 24 = .ok (.iconst 0, 1) := by decide +kernel
theorem d_Mo_trial_25 : decode b_Mo_trial 25 = .ok (.istore_n 2, 1) := by decide +kernel
theorem d_Mo_trial_26 : decode b_Mo_trial 26 = .ok (.iconst 0, 1) := by decide +kernel
theorem d_Mo_trial_27 : decode b_Mo_trial 27 = .ok (.istore_n 3, 1) := by decide +kernel
theorem d_Mo_trial_28 : decode b_Mo_trial 28 = .ok (.aload_n 0, 1) := by decide +kernel
theorem d_Mo_trial_29 : decode b_Mo_trial 29 = .ok (.iconst 0, 1) := by decide +kernel
theorem d_Mo_trial_30 : decode b_Mo_trial 30 = .ok (.putfield 1317, 3) := by decide +kernel
theorem d_Mo_trial_33 : decode b_Mo_trial 33 = .ok (.iconst 0, 1) := by decide +kernel
theorem d_Mo_trial_34 : decode b_Mo_trial 34 = .ok (.istore 4, 2) := by decide +kernel
theorem d_Mo_trial_36 : decode b_Mo_trial 36 = .ok (.iload 4, 2) := by decide +kernel
theorem d_Mo_trial_38 : decode b_Mo_trial 38 = .ok (.aload_n 0, 1) := by decide +kernel
theorem d_Mo_trial_39 : decode b_Mo_trial 39 = .ok (.getfield 1112, 3) := by decide +kernel
theorem d_Mo_trial_42 : decode b_Mo_trial 42 = .ok (.if_icmp .gt 124, 3) := by decide +kernel
theorem d_Mo_trial_45 : decode b_Mo_trial 45 = .ok (.iload 4, 2) := by decide +kernel
theorem d_Mo_trial_47 : decode b_Mo_trial 47 = .ok (.istore 5, 2) := by decide +kernel
theorem d_Mo_trial_49 : decode b_Mo_trial 49 = .ok (.iload 5, 2) := by decide +kernel
theorem d_Mo_trial_51 : decode b_Mo_trial 51 = .ok (.aload_n 0, 1) := by decide +kernel
theorem d_Mo_trial_52 : decode b_Mo_trial 52 = .ok (.getfield 1112, 3) := by decide +kernel
theorem d_Mo_trial_55 : decode b_Mo_trial 55 = .ok (.if_icmp .ge 21, 3) := by decide +kernel
theorem d_Mo_trial_58 : decode b_Mo_trial 58 = .ok (.aload_n 0, 1) := by decide +kernel
theorem d_Mo_trial_59 : decode b_Mo_trial 59 = .ok (.getfield 314, 3) := by decide +kernel
theorem d_Mo_trial_62 : decode b_Mo_trial 62 = .ok (.iload 5, 2) := by decide +kernel
theorem d_Mo_trial_64 : decode b_Mo_trial 64 = .ok (.baload, 1) := by decide +kernel
theorem d_Mo_trial_65 : decode b_Mo_trial 65 = .ok (.bipush 10, 2) := by decide +kernel
theorem d_Mo_trial_67 : decode b_Mo_trial 67 = .ok (.if_icmp .eq 9, 3) := by decide +kernel
theorem d_Mo_trial_70 : decode b_Mo_trial 70 = .ok (.iinc 5 1, 3) := by decide +kernel
theorem d_Mo_trial_73 : decode b_Mo_trial 73 = .ok (.goto (-24), 3) := by decide +kernel
theorem d_Mo_trial_76 : decode b_Mo_trial 76 = .ok (.aload_n 0, 1) := by decide +kernel
theorem d_Mo_trial_77 : decode b_Mo_trial 77 = .ok (.aload_n 0, 1) := by decide +kernel
theorem d_Mo_trial_78 : decode b_Mo_trial 78 = .ok (.getfield 314, 3) := by decide +kernel
theorem d_Mo_trial_81 : decode b_Mo_trial 81 = .ok (.iload 4, 2) := by decide +kernel
theorem d_Mo_trial_83 : decode b_Mo_trial 83 = .ok (.iload 5, 2) := by decide +kernel
theorem d_Mo_trial_85 : decode b_Mo_trial 85 = .ok (.invokevirtual 569, 3) := by decide +kernel
theorem d_Mo_trial_88 : decode b_Mo_trial 88 = .ok (.ifCond .eq 69, 3) := by decide +kernel
theorem d_Mo_trial_91 : decode b_Mo_trial 91 = .ok (.iinc 1 1, 3) := by decide +kernel
theorem d_Mo_trial_94 : decode b_Mo_trial 94 = .ok (.iload 4, 2) := by decide +kernel
theorem d_Mo_trial_96 : decode b_Mo_trial 96 = .ok (.istore_n 2, 1) := by decide +kernel
theorem d_Mo_trial_97 : decode b_Mo_trial 97 = .ok (.iload 5, 2) := by decide +kernel
theorem d_Mo_trial_99 : decode b_Mo_trial 99 = .ok (.istore_n 3, 1) := by decide +kernel
theorem d_Mo_trial_100 : decode b_Mo_trial 100 = .ok (.aload_n 0, 1) := by decide +kernel
theorem d_Mo_trial_101 : decode b_Mo_trial 101 = .ok (.getfield 314, 3) := by decide +kernel
theorem d_Mo_trial_104 : decode b_Mo_trial 104 = .ok (.iload 4, 2) := by decide +kernel
theorem d_Mo_trial_106 : decode b_Mo_trial 106 = .ok (.aload_n 0, 1) := by decide +kernel
theorem d_Mo_trial_107 : decode b_Mo_trial 107 = .ok (.getfield 387, 3) := by decide +kernel
theorem d_Mo_trial_110 : decode b_Mo_trial 110 = .ok (.aload_n 0, 1) := by decide +kernel
theorem d_Mo_trial_111 : decode b_Mo_trial 111 = .ok (.getfield 1317, 3) := by decide +kernel
theorem d_Mo_trial_114 : decode b_Mo_trial 114 = .ok (.iload 5, 2) := by decide +kernel
theorem d_Mo_trial_116 : decode b_Mo_trial 116 = .ok (.iload 4, 2) := by decide +kernel
theorem d_Mo_trial_118 : decode b_Mo_trial 118 = .ok (.isub, 1) := by decide +kernel
theorem d_Mo_trial_119 : decode b_Mo_trial 119 = .ok (.invokestatic 11, 3) := by decide +kernel
theorem d_Mo_trial_122 : decode b_Mo_trial 122 = .ok (.aload_n 0, 1) := by decide +kernel
theorem d_Mo_trial_123 : decode b_Mo_trial 123 = .ok (.dup, 1) := by decide +kernel
theorem d_Mo_trial_124 : decode b_Mo_trial 124 = .ok (.getfield 1317, 3) := by decide +kernel
theorem d_Mo_trial_127 : decode b_Mo_trial 127 = .ok (.iload 5, 2) := by decide +kernel
theorem d_Mo_trial_129 : decode b_Mo_trial 129 = .ok (.iload 4, 2) := by decide +kernel
theorem d_Mo_trial_131 : decode b_Mo_trial 131 = .ok (.isub, 1) := by decide +kernel
theorem d_Mo_trial_132 : decode b_Mo_trial 132 = .ok (.iadd, 1) := by decide +kernel
theorem d_Mo_trial_133 : decode b_Mo_trial 133 = .ok (.putfield 1317, 3) := by decide +kernel
theorem d_Mo_trial_136 : decode b_Mo_trial 136 = .ok (.aload_n 0, 1) := by decide +kernel
theorem d_Mo_trial_137 : decode b_Mo_trial 137 = .ok (.getfield 387, 3) := by decide +kernel
theorem d_Mo_trial_140 : decode b_Mo_trial 140 = .ok (.aload_n 0, 1) := by decide +kernel
theorem d_Mo_trial_141 : decode b_Mo_trial 141 = .ok (.getfield 1317, 3) := by decide +kernel
theorem d_Mo_trial_144 : decode b_Mo_trial 144 = .ok (.bipush 10, 2) := by decide +kernel
theorem d_Mo_trial_146 : decode b_Mo_trial 146 = .ok (.bastore, 1) := by decide +kernel
theorem d_Mo_trial_147 : decode b_Mo_trial 147 = .ok (.aload_n 0, 1) := by decide +kernel
theorem d_Mo_trial_148 : decode b_Mo_trial 148 = .ok (.dup, 1) := by decide +kernel
theorem d_Mo_trial_149 : decode b_Mo_trial 149 = .ok (.getfield 1317, 3) := by decide +kernel
theorem d_Mo_trial_152 : decode b_Mo_trial 152 = .ok (.iconst 1, 1) := by decide +kernel
theorem d_Mo_trial_153 : decode b_Mo_trial 153 = .ok (.iadd, 1) := by decide +kernel
theorem d_Mo_trial_154 : decode b_Mo_trial 154 = .ok (.putfield 1317, 3) := by decide +kernel
theorem d_Mo_trial_157 : decode b_Mo_trial 157 = .ok (.iload 5, 2) := by decide +kernel
theorem d_Mo_trial_159 : decode b_Mo_trial 159 = .ok (.iconst 1, 1) := by decide +kernel
theorem d_Mo_trial_160 : decode b_Mo_trial 160 = .ok (.iadd, 1) := by decide +kernel
theorem d_Mo_trial_161 : decode b_Mo_trial 161 = .ok (.istore 4, 2) := by decide +kernel
theorem d_Mo_trial_163 : decode b_Mo_trial 163 = .ok (.goto (-127), 3) := by decide +kernel
theorem d_Mo_trial_166 : decode b_Mo_trial 166 = .ok (.iload_n 1, 1) := by decide +kernel
theorem d_Mo_trial_167 : decode b_Mo_trial 167 = .ok (.bipush 60, 2) := by decide +kernel
theorem d_Mo_trial_169 : decode b_Mo_trial 169 = .ok (.if_icmp .le 6, 3) := by decide +kernel
theorem d_Mo_trial_172 : decode b_Mo_trial 172 = .ok (.bipush (-3), 2) := by decide +kernel
theorem d_Mo_trial_174 : decode b_Mo_trial 174 = .ok (.ireturn, 1) := by decide +kernel
theorem d_Mo_trial_175 : decode b_Mo_trial 175 = .ok (.aload_n 0, 1) := by decide +kernel
theorem d_Mo_trial_176 : decode b_Mo_trial 176 = .ok (.getfield 1112, 3) := by decide +kernel
theorem d_Mo_trial_179 : decode b_Mo_trial 179 = .ok (.istore 5, 2) := by decide +kernel
theorem d_Mo_trial_181 : decode b_Mo_trial 181 = .ok (.aload_n 0, 1) := by decide +kernel
theorem d_Mo_trial_182 : decode b_Mo_trial 182 = .ok (.iconst 0, 1) := by decide +kernel
theorem d_Mo_trial_183 : decode b_Mo_trial 183 = .ok (.putfield 1112, 3) := by decide +kernel
theorem d_Mo_trial_186 : decode b_Mo_trial 186 = .ok (.aload_n 0, 1) := by decide +kernel
theorem d_Mo_trial_187 : decode b_Mo_trial 187 = .ok (.bipush (-2), 2) := by decide +kernel
theorem d_Mo_trial_189 : decode b_Mo_trial 189 = .ok (.putfield 317, 3) := by decide +kernel
theorem d_Mo_trial_192 : decode b_Mo_trial 192 = .ok (.iload_n 1, 1) := by decide +kernel
theorem d_Mo_trial_193 : decode b_Mo_trial 193 = .ok (.ifCond .ne 10, 3) := by decide +kernel
theorem d_Mo_trial_196 : decode b_Mo_trial 196 = .ok (.aload_n 0, 1) := by decide +kernel
theorem d_Mo_trial_197 : decode b_Mo_trial 197 = .ok (.iconst 1, 1) := by decide +kernel
theorem d_Mo_trial_198 : decode b_Mo_trial 198 = .ok (.iload 5, 2) := by decide +kernel
theorem d_Mo_trial_200 : decode b_Mo_trial 200 = .ok (.invokevirtual 576, 3) := by decide +kernel
theorem d_Mo_trial_203 : decode b_Mo_trial 203 = .ok (.aload_n 0, 1) := by decide +kernel
theorem d_Mo_trial_204 : decode b_Mo_trial 204 = .ok (.aload_n 0, 1) := by decide +kernel
theorem d_Mo_trial_205 : decode b_Mo_trial 205 = .ok (.getfield 314, 3) := by decide +kernel
theorem d_Mo_trial_208 : decode b_Mo_trial 208 = .ok (.iload_n 2, 1) := by decide +kernel
theorem d_Mo_trial_209 : decode b_Mo_trial 209 = .ok (.iload_n 3, 1) := by decide +kernel
theorem d_Mo_trial_210 : decode b_Mo_trial 210 = .ok (.invokevirtual 569, 3) := by decide +kernel
theorem d_Mo_trial_213 : decode b_Mo_trial 213 = .ok (.pop, 1) := by decide +kernel
theorem d_Mo_trial_214 : decode b_Mo_trial 214 = .ok (.aload_n 0, 1) := by decide +kernel
theorem d_Mo_trial_215 : decode b_Mo_trial 215 = .ok (.aload_n 0, 1) := by decide +kernel
theorem d_Mo_trial_216 : decode b_Mo_trial 216 = .ok (.getfield 237, 3) := by decide +kernel
theorem d_Mo_trial_219 : decode b_Mo_trial 219 = .ok (.invokevirtual 592, 3) := by decide +kernel
theorem d_Mo_trial_222 : decode b_Mo_trial 222 = .ok (.aload_n 0, 1) := by decide +kernel
theorem d_Mo_trial_223 : decode b_Mo_trial 223 = .ok (.invokevirtual 1141, 3) := by decide +kernel
theorem d_Mo_trial_226 : decode b_Mo_trial 226 = .ok (.goto 16, 3) := by decide +kernel
theorem d_Mo_trial_229 : decode b_Mo_trial 229 = .ok (.astore 6, 2) := by decide +kernel
theorem d_Mo_trial_231 : decode b_Mo_trial 231 = .ok (.aload_n 0, 1) := by decide +kernel
theorem d_Mo_trial_232 : decode b_Mo_trial 232 = .ok (.aload_n 0, 1) := by decide +kernel
theorem d_Mo_trial_233 : decode b_Mo_trial 233 = .ok (.getfield 529, 3) := by decide +kernel
theorem d_Mo_trial_236 : decode b_Mo_trial 236 = .ok (.putfield 317, 3) := by decide +kernel
theorem d_Mo_trial_239 : decode b_Mo_trial 239 = .ok (.bipush (-11), 2) := by decide +kernel
theorem d_Mo_trial_241 : decode b_Mo_trial 241 = .ok (.ireturn, 1) := by decide +kernel
theorem d_Mo_trial_242 : decode b_Mo_trial 242 = .ok (.aload_n 0, 1) := by decide +kernel
theorem d_Mo_trial_243 : decode b_Mo_trial 243 = .ok (.invokevirtual 1320, 3) := by decide +kernel
theorem d_Mo_trial_246 : decode b_Mo_trial 246 = .ok (.ireturn, 1) := by decide +kernel
abbrev ra_Mo_trial (mc ms : Nat) : Room := { frames := 6, cells := mc, slots := ms, locals := 203 }
abbrev hh_Mo_trial : List (Nat × Nat × Nat × Nat) := [(192, 226, 229, 267)]
def wja_Mo_trial_19 (mc ms : Nat) (Post : Ly → St → Int32 → Nat → Nat → Prop) (a0 : Nat) (y_j19 : Ly) (s_j19 : St) (d_j19 e_j19 : Nat) : Prop := (d_j19 ≤ mc ∧ e_j19 ≤ ms) ∧ Post y_j19 s_j19 (-3) d_j19 e_j19
def wja_Mo_trial_229 (mc ms : Nat) (Post : Ly → St → Int32 → Nat → Nat → Prop) (a0 : Nat) (y_j229 : Ly) (s_j229 : St) (d_j229 e_j229 : Nat) (z0j229 : Nat) : Prop := (d_j229 ≤ mc ∧ e_j229 ≤ ms) ∧ xP (uV s_j229 a0 86 (sV s_j229 a0 50)) (fun s_4 : St => Post y_j229 s_4 (-11) d_j229 e_j229)
def wja_Mo_trial_203 (mc ms : Nat) (Post : Ly → St → Int32 → Nat → Nat → Prop) (a0 : Nat) (y_j203 : Ly) (s_j203 : St) (d_j203 e_j203 : Nat) (x2j203 : Int32) (x3j203 : Int32) : Prop := (d_j203 ≤ mc ∧ e_j203 ≤ ms) ∧ ∃ mc_10 ms_11 : Nat, (d_j203 + mc_10 ≤ mc ∧ e_j203 + ms_11 ≤ ms) ∧ wa_Mo_cutLine mc_10 ms_11 y_j203 (fun (y_7 : Ly) (s_6 : St) (r_5 : Int32) (d_8 e_9 : Nat) => (d_j203 + d_8 ≤ mc ∧ e_j203 + e_9 ≤ ms) ∧ ∃ mc_18 ms_19 : Nat, (d_j203 + d_8 + mc_18 ≤ mc ∧ e_j203 + e_9 + ms_19 ≤ ms) ∧ wx_Mo_needWord mc_18 ms_19 y_7 (fun (y_15 : Ly) (s_14 : St) (d_16 e_17 : Nat) => (d_j203 + d_8 + d_16 ≤ mc ∧ e_j203 + e_9 + e_17 ≤ ms) ∧ ∃ mc_26 ms_27 : Nat, (d_j203 + d_8 + d_16 + mc_26 ≤ mc ∧ e_j203 + e_9 + e_17 + ms_27 ≤ ms) ∧ wx_Mo_callWords mc_26 ms_27 y_15 (fun (y_23 : Ly) (s_22 : St) (d_24 e_25 : Nat) => (d_j203 + d_8 + d_16 + d_24 ≤ mc ∧ e_j203 + e_9 + e_17 + e_25 ≤ ms) ∧ wu_Mo_keepDraft y_23 (fun (s_30 : St) (r_29 : Int32) => Post y_23 s_30 r_29 (d_j203 + d_8 + d_16 + d_24) (e_j203 + e_9 + e_17 + e_25)) s_22 a0) (fun (y_23 : Ly) (s_22 : St) (d_24 e_25 : Nat) => ∀ q9 : Nat, wja_Mo_trial_229 mc ms Post a0 y_23 s_22 (d_j203 + d_8 + d_16 + d_24) (e_j203 + e_9 + e_17 + e_25) q9) s_14 a0) (fun (y_15 : Ly) (s_14 : St) (d_16 e_17 : Nat) => ∀ q9 : Nat, wja_Mo_trial_229 mc ms Post a0 y_15 s_14 (d_j203 + d_8 + d_16) (e_j203 + e_9 + e_17) q9) s_6 a0 (sV s_6 a0 25)) s_j203 a0 a0 84 x2j203 x3j203
def wja_Mo_trial_157 (mc ms : Nat) (Post : Ly → St → Int32 → Nat → Nat → Prop) (K_36 : Ly → St → Nat → Nat → Int32 → Int32 → Int32 → Int32 → Prop) (a0 : Nat) (y_j157 : Ly) (s_j157 : St) (d_j157 e_j157 : Nat) (x1j157 : Int32) (x2j157 : Int32) (x3j157 : Int32) (x5j157 : Int32) : Prop := (d_j157 ≤ mc ∧ e_j157 ≤ ms) ∧ K_36 y_j157 s_j157 d_j157 e_j157 x1j157 x2j157 x3j157 (x5j157 + 1)
def wja_Mo_trial_76 (mc ms : Nat) (Post : Ly → St → Int32 → Nat → Nat → Prop) (K_36 : Ly → St → Nat → Nat → Int32 → Int32 → Int32 → Int32 → Prop) (a0 : Nat) (y_j76 : Ly) (s_j76 : St) (d_j76 e_j76 : Nat) (x1j76 : Int32) (x2j76 : Int32) (x3j76 : Int32) (x4j76 : Int32) (x5j76 : Int32) : Prop := (d_j76 ≤ mc ∧ e_j76 ≤ ms) ∧ ∃ mc_44 ms_45 : Nat, (d_j76 + mc_44 ≤ mc ∧ e_j76 + ms_45 ≤ ms) ∧ wa_Mo_cutLine mc_44 ms_45 y_j76 (fun (y_41 : Ly) (s_40 : St) (r_39 : Int32) (d_42 e_43 : Nat) => (d_j76 + d_42 ≤ mc ∧ e_j76 + e_43 ≤ ms) ∧ ((r_39 = 0 → wja_Mo_trial_157 mc ms Post K_36 a0 y_41 s_40 (d_j76 + d_42) (e_j76 + e_43) x1j76 x2j76 x3j76 x5j76) ∧ (¬ (r_39 = 0) → xC y_41 s_40 a0 84 a0 122 .byte x4j76 (sV s_40 a0 123) (x5j76 - x4j76) (fun s_47 : St => xP (uV s_47 a0 123 ((sV s_47 a0 123) + (x5j76 - x4j76))) (fun s_48 : St => xS y_41 s_48 a0 122 (sV s_48 a0 123) (vp_nar .byte 10) (fun s_49 : St => xP (uV s_49 a0 123 ((sV s_49 a0 123) + 1)) (fun s_50 : St => wja_Mo_trial_157 mc ms Post K_36 a0 y_41 s_50 (d_j76 + d_42) (e_j76 + e_43) (x1j76 + 1) x4j76 x5j76 x5j76))))))) s_j76 a0 a0 84 x4j76 x5j76
def wba_Mo_trial_49 (mc ms : Nat) (Post : Ly → St → Int32 → Nat → Nat → Prop) (K_36 : Ly → St → Nat → Nat → Int32 → Int32 → Int32 → Int32 → Prop) (K_49 : Ly → St → Nat → Nat → Int32 → Int32 → Int32 → Int32 → Int32 → Prop) (a0 : Nat) (y_h49 : Ly) (s_h49 : St) (d_h49 e_h49 : Nat) (x1h49 : Int32) (x2h49 : Int32) (x3h49 : Int32) (x4h49 : Int32) (x5h49 : Int32) : Prop := (d_h49 ≤ mc ∧ e_h49 ≤ ms) ∧ (((sV s_h49 a0 85) ≤ x5h49 → wja_Mo_trial_76 mc ms Post K_36 a0 y_h49 s_h49 d_h49 e_h49 x1h49 x2h49 x3h49 x4h49 x5h49) ∧ (¬ ((sV s_h49 a0 85) ≤ x5h49) → xA y_h49 s_h49 a0 84 x5h49 (fun x_51 : Int32 => ((x_51 = 10 → wja_Mo_trial_76 mc ms Post K_36 a0 y_h49 s_h49 d_h49 e_h49 x1h49 x2h49 x3h49 x4h49 x5h49) ∧ (¬ (x_51 = 10) → K_49 y_h49 s_h49 d_h49 e_h49 x1h49 x2h49 x3h49 x4h49 (x5h49 + 1))))))
def wla_Mo_trial_49 (mc ms : Nat) (Post : Ly → St → Int32 → Nat → Nat → Prop) (K_36 : Ly → St → Nat → Nat → Int32 → Int32 → Int32 → Int32 → Prop) (a0 : Nat) (y_h49 : Ly) (s_h49 : St) (d_h49 e_h49 : Nat) (x1h49 : Int32) (x2h49 : Int32) (x3h49 : Int32) (x4h49 : Int32) (x5h49 : Int32) : Prop := ∃ (I : Ly → St → Nat → Nat → Int32 → Int32 → Int32 → Int32 → Int32 → Prop) (μ : Ly → St → Nat → Nat → Int32 → Int32 → Int32 → Int32 → Int32 → Nat), I y_h49 s_h49 d_h49 e_h49 x1h49 x2h49 x3h49 x4h49 x5h49 ∧ ∀ (u1 : Ly) (u2 : St) (u3 u4 : Nat) (t0 : Int32) (t1 : Int32) (t2 : Int32) (t3 : Int32) (t4 : Int32), I u1 u2 u3 u4 t0 t1 t2 t3 t4 → wba_Mo_trial_49 mc ms Post K_36 (fun z1 z2 z3 z4 t0q t1q t2q t3q t4q => I z1 z2 z3 z4 t0q t1q t2q t3q t4q ∧ μ z1 z2 z3 z4 t0q t1q t2q t3q t4q < μ u1 u2 u3 u4 t0 t1 t2 t3 t4) a0 u1 u2 u3 u4 t0 t1 t2 t3 t4
def wba_Mo_trial_36 (mc ms : Nat) (Post : Ly → St → Int32 → Nat → Nat → Prop) (K_36 : Ly → St → Nat → Nat → Int32 → Int32 → Int32 → Int32 → Prop) (a0 : Nat) (y_h36 : Ly) (s_h36 : St) (d_h36 e_h36 : Nat) (x1h36 : Int32) (x2h36 : Int32) (x3h36 : Int32) (x4h36 : Int32) : Prop := (d_h36 ≤ mc ∧ e_h36 ≤ ms) ∧ (((sV s_h36 a0 85) < x4h36 → ((x1h36 ≤ 60 → xP (uV s_h36 a0 85 0) (fun s_2 : St => xP (uV s_2 a0 86 (-2)) (fun s_3 : St => ((¬ x1h36 = 0 → wja_Mo_trial_203 mc ms Post a0 y_h36 s_3 d_h36 e_h36 x2h36 x3h36) ∧ (x1h36 = 0 → ∃ mc_36 ms_37 : Nat, (d_h36 + mc_36 ≤ mc ∧ e_h36 + ms_37 ≤ ms) ∧ wx_Mo_refuse mc_36 ms_37 y_h36 (fun (y_33 : Ly) (s_32 : St) (d_34 e_35 : Nat) => (d_h36 + d_34 ≤ mc ∧ e_h36 + e_35 ≤ ms) ∧ wja_Mo_trial_203 mc ms Post a0 y_33 s_32 (d_h36 + d_34) (e_h36 + e_35) x2h36 x3h36) (fun (y_33 : Ly) (s_32 : St) (d_34 e_35 : Nat) => ∀ q9 : Nat, wja_Mo_trial_229 mc ms Post a0 y_33 s_32 (d_h36 + d_34) (e_h36 + e_35) q9) s_3 a0 1 (sV s_h36 a0 85)))))) ∧ (¬ (x1h36 ≤ 60) → Post y_h36 s_h36 (-3) d_h36 e_h36))) ∧ (¬ ((sV s_h36 a0 85) < x4h36) → wla_Mo_trial_49 mc ms Post K_36 a0 y_h36 s_h36 d_h36 e_h36 x1h36 x2h36 x3h36 x4h36 x4h36))
def wla_Mo_trial_36 (mc ms : Nat) (Post : Ly → St → Int32 → Nat → Nat → Prop) (a0 : Nat) (y_h36 : Ly) (s_h36 : St) (d_h36 e_h36 : Nat) (x1h36 : Int32) (x2h36 : Int32) (x3h36 : Int32) (x4h36 : Int32) : Prop := ∃ (I : Ly → St → Nat → Nat → Int32 → Int32 → Int32 → Int32 → Prop) (μ : Ly → St → Nat → Nat → Int32 → Int32 → Int32 → Int32 → Nat), I y_h36 s_h36 d_h36 e_h36 x1h36 x2h36 x3h36 x4h36 ∧ ∀ (u1 : Ly) (u2 : St) (u3 u4 : Nat) (t0 : Int32) (t1 : Int32) (t2 : Int32) (t3 : Int32), I u1 u2 u3 u4 t0 t1 t2 t3 → wba_Mo_trial_36 mc ms Post (fun z1 z2 z3 z4 t0q t1q t2q t3q => I z1 z2 z3 z4 t0q t1q t2q t3q ∧ μ z1 z2 z3 z4 t0q t1q t2q t3q < μ u1 u2 u3 u4 t0 t1 t2 t3) a0 u1 u2 u3 u4 t0 t1 t2 t3
def wa_Mo_trial (mc ms : Nat) (y : Ly) (Post : Ly → St → Int32 → Nat → Nat → Prop) (σ : St) (a0 : Nat) : Prop := (((sV σ a0 121) = 40 → wja_Mo_trial_19 mc ms Post a0 y σ 0 0) ∧ (¬ ((sV σ a0 121) = 40) → (((sV σ a0 85) ≤ 1200 → xP (uV σ a0 123 0) (fun s_1 : St => wla_Mo_trial_36 mc ms Post a0 y s_1 0 0 0 0 0 0)) ∧ (¬ ((sV σ a0 85) ≤ 1200) → wja_Mo_trial_19 mc ms Post a0 y σ 0 0))))
set_option maxHeartbeats 4000000 in
set_option maxRecDepth 100000 in
theorem ca_Mo_trial (l : Launch) (D : va_G) (g : Nat → ClassId) (ad : Nat → Nat) (mc ms : Nat) (y : Ly) (Post : Ly → St → Int32 → Nat → Nat → Prop) (σ : St) (a0 : Nat) (sz uz : Nat) (h_a0 : cl a0 = 14) (h : wa_Mo_trial mc ms y Post σ a0) : Met l y_Mo_trial (mww y_Mo_trial b_Mo_trial 7 (some .int) hh_Mo_trial) (ra_Mo_trial mc ms) (PCu g D [] [.ref (ad a0)] sz uz (ws g ad y σ)) (va_Qi (fun (r : Int32) (u : Ly × St × Nat × Nat) => Post u.1 u.2.1 r u.2.2.1 u.2.2.2) (QU D (va_A (ws g ad y σ) sz) (fun u => ws g ad u.1 u.2.1) sz uz (fun u => u.2.2.1) (fun u => u.2.2.2)) (va_A (ws g ad y σ) sz)) mc ms (va_A (ws g ad y σ) sz) := by
  refine ofIuW (by decide +kernel) (Nat.le_of_ble_eq_true rfl) ?_
  intro p e s m args below meth c A Q ls H locs G htab hsz hP hD hS hl hret
  subst hsz
  have hl : lv_has ls 7 [(0, .ref (ad a0))] := hl
  have hd : 0 ≤ mc ∧ 0 ≤ ms := ⟨Nat.zero_le _, Nat.zero_le _⟩
  unfold wa_Mo_trial at h
  refine lv_aload_n G.1 G.2.1 d_Mo_trial_0 rfl (lv_at hl 0 rfl) ?_
  refine ugf (v := .int (sV σ a0 121)) G hP h_a0 iMo rfl 121 (by decide) rfl q3185 rfl rfl d_Mo_trial_1 ?_
  refine lv_bipush (v := 40) G.1 G.2.1 d_Mo_trial_4 (by decide) ?_
  have J_19 : ∀ (y_j19 : Ly) (s_j19 : St) (d_j19 e_j19 : Nat) (H : Heap) (locs : List Loc), wja_Mo_trial_19 mc ms Post a0 y_j19 s_j19 d_j19 e_j19 → va_P D CL (ws g ad y_j19 s_j19) H → va_D A (ws g ad y_j19 s_j19) → va_S A s.heap H locs → ∀ ls, lv_has ls 7 [] → W p l e (ra_Mo_trial mc ms) s m args below meth c H locs d_j19 e_j19 Q (F0 m 19 ls []) := by
    intro y_j19 s_j19 d_j19 e_j19 H locs h hP hD hS ls hl
    unfold wja_Mo_trial_19 at h
    obtain ⟨hd, h⟩ := h
    refine lv_bipush (v := (-3)) G.1 G.2.1 d_Mo_trial_19 (by decide) ?_
    exact hret _ (y_j19, s_j19, d_j19, e_j19) _ _ _ _ _ ls h hP hD hS (Nat.le_refl _) (Nat.le_refl _) hd.1 hd.2 d_Mo_trial_21
  refine lv_icmp_eq (tgt := 19) G.1 G.2.1 d_Mo_trial_6 (by decide) (fun c6 => ?_) (fun c6 => ?_)
  · skip
    have h := h.1 c6
    exact J_19 y σ 0 0 H locs h hP hD hS ls (lv_sub hl [] rfl)
  · skip
    have h := h.2 c6
    refine lv_aload_n G.1 G.2.1 d_Mo_trial_9 rfl (lv_at hl 0 rfl) ?_
    refine ugf (v := .int (sV σ a0 85)) G hP h_a0 iMo rfl 85 (by decide) rfl q3149 rfl rfl d_Mo_trial_10 ?_
    refine lv_sipush (v := 1200) G.1 G.2.1 d_Mo_trial_13 (by decide) ?_
    refine lv_icmp_le (tgt := 22) G.1 G.2.1 d_Mo_trial_16 (by decide) (fun c16 => ?_) (fun c16 => ?_)
    · skip
      have h := h.1 c16
      refine lv_iconst (v := 0) G.1 G.2.1 d_Mo_trial_22 (by decide) ?_
      refine lv_istore_n (lv' := [(1, .int 0), (0, .ref (ad a0))]) G.1 G.2.1 d_Mo_trial_23 rfl hl (by decide) rfl (fun ls hl => ?_)
      refine lv_iconst (v := 0) G.1 G.2.1 d_Mo_trial_24 (by decide) ?_
      refine W.eq (g2 := F0 m 25 ls [.int 0]) rfl ?_
      refine lv_istore_n (lv' := [(2, .int 0), (1, .int 0), (0, .ref (ad a0))]) G.1 G.2.1 d_Mo_trial_25 rfl hl (by decide) rfl (fun ls hl => ?_)
      refine lv_iconst (v := 0) G.1 G.2.1 d_Mo_trial_26 (by decide) ?_
      refine lv_istore_n (lv' := [(3, .int 0), (2, .int 0), (1, .int 0), (0, .ref (ad a0))]) G.1 G.2.1 d_Mo_trial_27 rfl hl (by decide) rfl (fun ls hl => ?_)
      refine lv_aload_n G.1 G.2.1 d_Mo_trial_28 rfl (lv_at hl 3 rfl) ?_
      refine lv_iconst (v := 0) G.1 G.2.1 d_Mo_trial_29 (by decide) ?_
      refine upf G hP hD hS h 123 putV h_a0 iMo tMo tMo_ok nMo rfl (by decide) rfl q3187 rfl rfl fV rfl rfl d_Mo_trial_30 (fun s_1 H locs h hP hD hS => ?_)
      refine lv_iconst (v := 0) G.1 G.2.1 d_Mo_trial_33 (by decide) ?_
      refine lv_istore (lv' := [(4, .int 0), (3, .int 0), (2, .int 0), (1, .int 0), (0, .ref (ad a0))]) G.1 G.2.1 d_Mo_trial_34 hl (by decide) rfl (fun ls hl => ?_)
      unfold wla_Mo_trial_36 at h
      obtain ⟨I_36, μ_36, hI_36, hB_36⟩ := h
      have L_36 : ∀ (n_36 : Nat) (y_h36 : Ly) (s_h36 : St) (d_h36 e_h36 : Nat) (x1h36 : Int32) (x2h36 : Int32) (x3h36 : Int32) (x4h36 : Int32), μ_36 y_h36 s_h36 d_h36 e_h36 x1h36 x2h36 x3h36 x4h36 < n_36 → I_36 y_h36 s_h36 d_h36 e_h36 x1h36 x2h36 x3h36 x4h36 → ∀ (H : Heap) (locs : List Loc), va_P D CL (ws g ad y_h36 s_h36) H → va_D A (ws g ad y_h36 s_h36) → va_S A s.heap H locs → ∀ ls, lv_has ls 7 [(0, .ref (ad a0)), (1, .int x1h36), (2, .int x2h36), (3, .int x3h36), (4, .int x4h36)] → W p l e (ra_Mo_trial mc ms) s m args below meth c H locs d_h36 e_h36 Q (F0 m 36 ls []) := by
        intro n_36
        induction n_36 with
        | zero => intro y_h36 s_h36 d_h36 e_h36 x1h36 x2h36 x3h36 x4h36 hμ; exact absurd hμ (Nat.not_lt_zero _)
        | succ n_36 ih_36 =>
          intro y_h36 s_h36 d_h36 e_h36 x1h36 x2h36 x3h36 x4h36 hμ_36 hJ H locs hP hD hS ls hl
          obtain ⟨K_36, hK_36, h⟩ : ∃ K : Ly → St → Nat → Nat → Int32 → Int32 → Int32 → Int32 → Prop, (∀ z1 z2 z3 z4 (t0 : Int32) (t1 : Int32) (t2 : Int32) (t3 : Int32), K z1 z2 z3 z4 t0 t1 t2 t3 → I_36 z1 z2 z3 z4 t0 t1 t2 t3 ∧ μ_36 z1 z2 z3 z4 t0 t1 t2 t3 < μ_36 y_h36 s_h36 d_h36 e_h36 x1h36 x2h36 x3h36 x4h36) ∧ wba_Mo_trial_36 mc ms Post K a0 y_h36 s_h36 d_h36 e_h36 x1h36 x2h36 x3h36 x4h36 := ⟨_, fun _ _ _ _ _ _ _ _ h => h, hB_36 y_h36 s_h36 d_h36 e_h36 x1h36 x2h36 x3h36 x4h36 hJ⟩
          unfold wba_Mo_trial_36 at h
          obtain ⟨hd, h⟩ := h
          refine lv_iload G.1 G.2.1 d_Mo_trial_36 (lv_at hl 4 rfl) ?_
          refine lv_aload_n G.1 G.2.1 d_Mo_trial_38 rfl (lv_at hl 0 rfl) ?_
          refine ugf (v := .int (sV s_h36 a0 85)) G hP h_a0 iMo rfl 85 (by decide) rfl q3149 rfl rfl d_Mo_trial_39 ?_
          refine lv_icmp_gt (tgt := 166) G.1 G.2.1 d_Mo_trial_42 (by decide) (fun c42 => ?_) (fun c42 => ?_)
          · skip
            have h := h.1 c42
            refine lv_iload_n G.1 G.2.1 d_Mo_trial_166 rfl (lv_at hl 1 rfl) ?_
            refine lv_bipush (v := 60) G.1 G.2.1 d_Mo_trial_167 (by decide) ?_
            refine lv_icmp_le (tgt := 175) G.1 G.2.1 d_Mo_trial_169 (by decide) (fun c169 => ?_) (fun c169 => ?_)
            · skip
              have h := h.1 c169
              refine lv_aload_n G.1 G.2.1 d_Mo_trial_175 rfl (lv_at hl 0 rfl) ?_
              refine ugf (v := .int (sV s_h36 a0 85)) G hP h_a0 iMo rfl 85 (by decide) rfl q3149 rfl rfl d_Mo_trial_176 ?_
              refine lv_istore (lv' := [(5, .int (sV s_h36 a0 85)), (0, .ref (ad a0)), (1, .int x1h36), (2, .int x2h36), (3, .int x3h36), (4, .int x4h36)]) G.1 G.2.1 d_Mo_trial_179 hl (by decide) rfl (fun ls hl => ?_)
              refine lv_aload_n G.1 G.2.1 d_Mo_trial_181 rfl (lv_at hl 1 rfl) ?_
              refine W.eq (g2 := F0 m 182 ls [.ref (ad a0)]) rfl ?_
              refine lv_iconst (v := 0) G.1 G.2.1 d_Mo_trial_182 (by decide) ?_
              refine upf G hP hD hS h 85 putV h_a0 iMo tMo tMo_ok nMo rfl (by decide) rfl q3149 rfl rfl fV rfl rfl d_Mo_trial_183 (fun s_2 H locs h hP hD hS => ?_)
              refine lv_aload_n G.1 G.2.1 d_Mo_trial_186 rfl (lv_at hl 1 rfl) ?_
              refine lv_bipush (v := (-2)) G.1 G.2.1 d_Mo_trial_187 (by decide) ?_
              refine upf G hP hD hS h 86 putV h_a0 iMo tMo tMo_ok nMo rfl (by decide) rfl q3150 rfl rfl fV rfl rfl d_Mo_trial_189 (fun s_3 H locs h hP hD hS => ?_)
              refine lv_iload_n G.1 G.2.1 d_Mo_trial_192 rfl (lv_at hl 2 rfl) ?_
              have J_229 : ∀ (y_j229 : Ly) (s_j229 : St) (d_j229 e_j229 : Nat) (z0j229 : Nat) (H : Heap) (locs : List Loc), wja_Mo_trial_229 mc ms Post a0 y_j229 s_j229 d_j229 e_j229 z0j229 → va_P D CL (ws g ad y_j229 s_j229) H → va_D A (ws g ad y_j229 s_j229) → va_S A s.heap H locs → ∀ ls, lv_has ls 7 [(0, .ref (ad a0))] → W p l e (ra_Mo_trial mc ms) s m args below meth c H locs d_j229 e_j229 Q (F0 m 229 ls [.ref z0j229]) := by
                intro y_j229 s_j229 d_j229 e_j229 z0j229 H locs h hP hD hS ls hl
                unfold wja_Mo_trial_229 at h
                obtain ⟨hd, h⟩ := h
                refine lv_astore (lv' := [(6, .ref z0j229), (0, .ref (ad a0))]) G.1 G.2.1 d_Mo_trial_229 hl (by decide) rfl (fun ls hl => ?_)
                refine lv_aload_n G.1 G.2.1 d_Mo_trial_231 rfl (lv_at hl 1 rfl) ?_
                refine lv_aload_n G.1 G.2.1 d_Mo_trial_232 rfl (lv_at hl 1 rfl) ?_
                refine ugf (v := .int (sV s_j229 a0 50)) G hP h_a0 iMo rfl 50 (by decide) rfl q3114 rfl rfl d_Mo_trial_233 ?_
                refine upf G hP hD hS h 86 putV h_a0 iMo tMo tMo_ok nMo rfl (by decide) rfl q3150 rfl rfl fV rfl rfl d_Mo_trial_236 (fun s_4 H locs h hP hD hS => ?_)
                refine lv_bipush (v := (-11)) G.1 G.2.1 d_Mo_trial_239 (by decide) ?_
                exact hret _ (y_j229, s_4, d_j229, e_j229) _ _ _ _ _ ls h hP hD hS (Nat.le_refl _) (Nat.le_refl _) hd.1 hd.2 d_Mo_trial_241
              have J_203 : ∀ (y_j203 : Ly) (s_j203 : St) (d_j203 e_j203 : Nat) (x2j203 : Int32) (x3j203 : Int32) (H : Heap) (locs : List Loc), wja_Mo_trial_203 mc ms Post a0 y_j203 s_j203 d_j203 e_j203 x2j203 x3j203 → va_P D CL (ws g ad y_j203 s_j203) H → va_D A (ws g ad y_j203 s_j203) → va_S A s.heap H locs → ∀ ls, lv_has ls 7 [(0, .ref (ad a0)), (2, .int x2j203), (3, .int x3j203)] → W p l e (ra_Mo_trial mc ms) s m args below meth c H locs d_j203 e_j203 Q (F0 m 203 ls []) := by
                intro y_j203 s_j203 d_j203 e_j203 x2j203 x3j203 H locs h hP hD hS ls hl
                unfold wja_Mo_trial_203 at h
                obtain ⟨hd, h⟩ := h
                refine lv_aload_n G.1 G.2.1 d_Mo_trial_203 rfl (lv_at hl 0 rfl) ?_
                refine lv_aload_n G.1 G.2.1 d_Mo_trial_204 rfl (lv_at hl 0 rfl) ?_
                refine ugf (v := .ref (yP y_j203 a0 84)) G hP h_a0 iMo rfl 84 (by decide) rfl q3148 rfl rfl d_Mo_trial_205 ?_
                refine lv_iload_n G.1 G.2.1 d_Mo_trial_208 rfl (lv_at hl 1 rfl) ?_
                refine lv_iload_n G.1 G.2.1 d_Mo_trial_209 rfl (lv_at hl 2 rfl) ?_
                obtain ⟨mc_10, ms_11, hr_12, h⟩ := h
                refine uaVi (As := [.ref (yP y_j203 a0 84), .int x2j203, .int x3j203]) (rest := []) G hP hD hS (ca_Mo_cutLine l D g ad mc_10 ms_11 y_j203 _ s_j203 a0 a0 84 x2j203 x3j203 H.size (us H) h_a0 ⟨(kdp h_a0 rfl), (typ h_a0 rfl)⟩ h) w9_Mo_cutLine q3494 ⟨Nat.le_of_ble_eq_true rfl, Nat.le_of_ble_eq_true rfl⟩ rfl rfl h_a0 (q := (RMo, TMo, 131)) rfl rfl hl.1 rfl (Nat.le_of_ble_eq_true rfl) rfl hr_12 d_Mo_trial_210 (fun r_5 y_7 s_6 d_8 e_9 H locs h hP hD hS => ?_)
                have hl := lv_sub (l' := [(0, .ref (ad a0))]) hl [0] rfl
                obtain ⟨hd, h⟩ := h
                refine lv_pop G.1 G.2.1 d_Mo_trial_213 rfl ?_
                refine lv_aload_n G.1 G.2.1 d_Mo_trial_214 rfl (lv_at hl 0 rfl) ?_
                refine lv_aload_n G.1 G.2.1 d_Mo_trial_215 rfl (lv_at hl 0 rfl) ?_
                refine ugf (v := .int (sV s_6 a0 25)) G hP h_a0 iMo rfl 25 (by decide) rfl q3089 rfl rfl d_Mo_trial_216 ?_
                obtain ⟨mc_18, ms_19, hr_20, h⟩ := h
                refine uxVv (As := [.int (sV s_6 a0 25)]) (rest := []) G hP hD hS (cx_Mo_needWord l D g ad mc_18 ms_19 y_7 _ _ s_6 a0 (sV s_6 a0 25) H.size (us H) h_a0 h) (fun _ h => absurd h List.not_mem_nil) w9_Mo_needWord q3543 ⟨Nat.le_of_ble_eq_true rfl, Nat.le_of_ble_eq_true rfl⟩ rfl rfl h_a0 (q := (RMo, TMo, 131)) rfl rfl hl.1 rfl (Nat.le_of_ble_eq_true rfl) rfl hr_20 d_Mo_trial_219 (fun y_15 s_14 d_16 e_17 H locs q9 ce h hP hD hS hce hcv hcl => ?_) (fun y_15 s_14 d_16 e_17 H locs h hP hD hS => ?_)
                · skip
                  refine vx_catch (own := "ClassWorksModel") (name := "java/lang/IllegalStateException") (E := "java/lang/IllegalStateException") G.2.2.2.2.2.2.1 [] ⟨192, 226, 229, 267⟩ [] htab (fun z hz => absurd hz List.not_mem_nil) (by decide) (by decide) (G.2.2.2.2.2.1 _ q2633) (G.2.2.2.2.2.2.2.2.2.1.use (w := Cond.castable "java/lang/IllegalStateException" "java/lang/IllegalStateException") (lw_nestmem (List.mem_of_getElem? (i := 2635) (by decide +kernel)) rfl) rfl) hce hcv hcl ?_
                  refine W.eq (g2 := F0 m 229 ls [.ref q9]) rfl ?_
                  have h := h q9
                  exact J_229 y_15 s_14 (d_j203 + d_8 + d_16) (e_j203 + e_9 + e_17) q9 H locs h hP hD hS ls (lv_sub hl [0] rfl)
                obtain ⟨hd, h⟩ := h
                refine W.eq (g2 := F0 m 222 ls []) rfl ?_
                refine lv_aload_n G.1 G.2.1 d_Mo_trial_222 rfl (lv_at hl 0 rfl) ?_
                obtain ⟨mc_26, ms_27, hr_28, h⟩ := h
                refine uxVv (As := []) (rest := []) G hP hD hS (cx_Mo_callWords l D g ad mc_26 ms_27 y_15 _ _ s_14 a0 H.size (us H) h_a0 h) (fun _ h => absurd h List.not_mem_nil) w9_Mo_callWords q3802 ⟨Nat.le_of_ble_eq_true rfl, Nat.le_of_ble_eq_true rfl⟩ rfl rfl h_a0 (q := (RMo, TMo, 131)) rfl rfl hl.1 rfl (Nat.le_of_ble_eq_true rfl) rfl hr_28 d_Mo_trial_223 (fun y_23 s_22 d_24 e_25 H locs q9 ce h hP hD hS hce hcv hcl => ?_) (fun y_23 s_22 d_24 e_25 H locs h hP hD hS => ?_)
                · skip
                  refine vx_catch (own := "ClassWorksModel") (name := "java/lang/IllegalStateException") (E := "java/lang/IllegalStateException") G.2.2.2.2.2.2.1 [] ⟨192, 226, 229, 267⟩ [] htab (fun z hz => absurd hz List.not_mem_nil) (by decide) (by decide) (G.2.2.2.2.2.1 _ q2633) (G.2.2.2.2.2.2.2.2.2.1.use (w := Cond.castable "java/lang/IllegalStateException" "java/lang/IllegalStateException") (lw_nestmem (List.mem_of_getElem? (i := 2635) (by decide +kernel)) rfl) rfl) hce hcv hcl ?_
                  refine W.eq (g2 := F0 m 229 ls [.ref q9]) rfl ?_
                  have h := h q9
                  exact J_229 y_23 s_22 (d_j203 + d_8 + d_16 + d_24) (e_j203 + e_9 + e_17 + e_25) q9 H locs h hP hD hS ls (lv_sub hl [0] rfl)
                obtain ⟨hd, h⟩ := h
                refine lv_goto (tgt := 242) G.1 G.2.1 d_Mo_trial_226 (by decide) ?_
                refine lv_aload_n G.1 G.2.1 d_Mo_trial_242 rfl (lv_at hl 0 rfl) ?_
                refine ucVi (As := []) (rest := []) G hP hD hS (cu_Mo_keepDraft l D g ad y_23 _ s_22 a0 H.size h_a0 h) w9_Mo_keepDraft q4216 ⟨Nat.le_of_ble_eq_true rfl, Nat.le_of_ble_eq_true rfl⟩ rfl rfl h_a0 (q := (RMo, TMo, 131)) rfl rfl hl.1 rfl (Nat.le_of_ble_eq_true rfl) rfl hd d_Mo_trial_243 (fun r_29 s_30 H locs h hP hD hS => ?_)
                exact hret _ (y_23, s_30, d_j203 + d_8 + d_16 + d_24, e_j203 + e_9 + e_17 + e_25) _ _ _ _ _ ls h hP hD hS (Nat.le_refl _) (Nat.le_refl _) hd.1 hd.2 d_Mo_trial_246
              refine lv_if_ne (tgt := 203) G.1 G.2.1 d_Mo_trial_193 (by decide) (fun c193 => ?_) (fun c193 => ?_)
              · skip
                have h := h.1 c193
                exact J_203 y_h36 s_3 d_h36 e_h36 x2h36 x3h36 H locs h hP hD hS ls (lv_sub hl [1, 3, 4] rfl)
              · skip
                have h := h.2 c193
                refine lv_aload_n G.1 G.2.1 d_Mo_trial_196 rfl (lv_at hl 1 rfl) ?_
                refine lv_iconst (v := 1) G.1 G.2.1 d_Mo_trial_197 (by decide) ?_
                refine lv_iload G.1 G.2.1 d_Mo_trial_198 (lv_at hl 0 rfl) ?_
                obtain ⟨mc_36, ms_37, hr_38, h⟩ := h
                refine uxVv (As := [.int 1, .int (sV s_h36 a0 85)]) (rest := []) G hP hD hS (cx_Mo_refuse l D g ad mc_36 ms_37 y_h36 _ _ s_3 a0 1 (sV s_h36 a0 85) H.size (us H) h_a0 h) (fun _ h => absurd h List.not_mem_nil) w9_Mo_refuse q3535 ⟨Nat.le_of_ble_eq_true rfl, Nat.le_of_ble_eq_true rfl⟩ rfl rfl h_a0 (q := (RMo, TMo, 131)) rfl rfl hl.1 rfl (Nat.le_of_ble_eq_true rfl) rfl hr_38 d_Mo_trial_200 (fun y_33 s_32 d_34 e_35 H locs q9 ce h hP hD hS hce hcv hcl => ?_) (fun y_33 s_32 d_34 e_35 H locs h hP hD hS => ?_)
                · skip
                  refine vx_catch (own := "ClassWorksModel") (name := "java/lang/IllegalStateException") (E := "java/lang/IllegalStateException") G.2.2.2.2.2.2.1 [] ⟨192, 226, 229, 267⟩ [] htab (fun z hz => absurd hz List.not_mem_nil) (by decide) (by decide) (G.2.2.2.2.2.1 _ q2633) (G.2.2.2.2.2.2.2.2.2.1.use (w := Cond.castable "java/lang/IllegalStateException" "java/lang/IllegalStateException") (lw_nestmem (List.mem_of_getElem? (i := 2635) (by decide +kernel)) rfl) rfl) hce hcv hcl ?_
                  refine W.eq (g2 := F0 m 229 ls [.ref q9]) rfl ?_
                  have h := h q9
                  exact J_229 y_33 s_32 (d_h36 + d_34) (e_h36 + e_35) q9 H locs h hP hD hS ls (lv_sub hl [1] rfl)
                have hl := lv_sub (l' := [(0, .ref (ad a0)), (2, .int x2h36), (3, .int x3h36)]) hl [1, 3, 4] rfl
                obtain ⟨hd, h⟩ := h
                exact J_203 y_33 s_32 (d_h36 + d_34) (e_h36 + e_35) x2h36 x3h36 H locs h hP hD hS ls (lv_sub hl [0, 1, 2] rfl)
            · skip
              have h := h.2 c169
              refine lv_bipush (v := (-3)) G.1 G.2.1 d_Mo_trial_172 (by decide) ?_
              exact hret _ (y_h36, s_h36, d_h36, e_h36) _ _ _ _ _ ls h hP hD hS (Nat.le_refl _) (Nat.le_refl _) hd.1 hd.2 d_Mo_trial_174
          · skip
            have h := h.2 c42
            refine lv_iload G.1 G.2.1 d_Mo_trial_45 (lv_at hl 4 rfl) ?_
            refine lv_istore (lv' := [(5, .int x4h36), (0, .ref (ad a0)), (1, .int x1h36), (2, .int x2h36), (3, .int x3h36), (4, .int x4h36)]) G.1 G.2.1 d_Mo_trial_47 hl (by decide) rfl (fun ls hl => ?_)
            unfold wla_Mo_trial_49 at h
            obtain ⟨I_49, μ_49, hI_49, hB_49⟩ := h
            have L_49 : ∀ (n_49 : Nat) (y_h49 : Ly) (s_h49 : St) (d_h49 e_h49 : Nat) (x1h49 : Int32) (x2h49 : Int32) (x3h49 : Int32) (x4h49 : Int32) (x5h49 : Int32), μ_49 y_h49 s_h49 d_h49 e_h49 x1h49 x2h49 x3h49 x4h49 x5h49 < n_49 → I_49 y_h49 s_h49 d_h49 e_h49 x1h49 x2h49 x3h49 x4h49 x5h49 → ∀ (H : Heap) (locs : List Loc), va_P D CL (ws g ad y_h49 s_h49) H → va_D A (ws g ad y_h49 s_h49) → va_S A s.heap H locs → ∀ ls, lv_has ls 7 [(0, .ref (ad a0)), (1, .int x1h49), (2, .int x2h49), (3, .int x3h49), (4, .int x4h49), (5, .int x5h49)] → W p l e (ra_Mo_trial mc ms) s m args below meth c H locs d_h49 e_h49 Q (F0 m 49 ls []) := by
              intro n_49
              induction n_49 with
              | zero => intro y_h49 s_h49 d_h49 e_h49 x1h49 x2h49 x3h49 x4h49 x5h49 hμ; exact absurd hμ (Nat.not_lt_zero _)
              | succ n_49 ih_49 =>
                intro y_h49 s_h49 d_h49 e_h49 x1h49 x2h49 x3h49 x4h49 x5h49 hμ_49 hJ H locs hP hD hS ls hl
                obtain ⟨K_49, hK_49, h⟩ : ∃ K : Ly → St → Nat → Nat → Int32 → Int32 → Int32 → Int32 → Int32 → Prop, (∀ z1 z2 z3 z4 (t0 : Int32) (t1 : Int32) (t2 : Int32) (t3 : Int32) (t4 : Int32), K z1 z2 z3 z4 t0 t1 t2 t3 t4 → I_49 z1 z2 z3 z4 t0 t1 t2 t3 t4 ∧ μ_49 z1 z2 z3 z4 t0 t1 t2 t3 t4 < μ_49 y_h49 s_h49 d_h49 e_h49 x1h49 x2h49 x3h49 x4h49 x5h49) ∧ wba_Mo_trial_49 mc ms Post K_36 K a0 y_h49 s_h49 d_h49 e_h49 x1h49 x2h49 x3h49 x4h49 x5h49 := ⟨_, fun _ _ _ _ _ _ _ _ _ h => h, hB_49 y_h49 s_h49 d_h49 e_h49 x1h49 x2h49 x3h49 x4h49 x5h49 hJ⟩
                unfold wba_Mo_trial_49 at h
                obtain ⟨hd, h⟩ := h
                refine lv_iload G.1 G.2.1 d_Mo_trial_49 (lv_at hl 5 rfl) ?_
                refine lv_aload_n G.1 G.2.1 d_Mo_trial_51 rfl (lv_at hl 0 rfl) ?_
                refine ugf (v := .int (sV s_h49 a0 85)) G hP h_a0 iMo rfl 85 (by decide) rfl q3149 rfl rfl d_Mo_trial_52 ?_
                have J_76 : ∀ (y_j76 : Ly) (s_j76 : St) (d_j76 e_j76 : Nat) (x1j76 : Int32) (x2j76 : Int32) (x3j76 : Int32) (x4j76 : Int32) (x5j76 : Int32) (H : Heap) (locs : List Loc), wja_Mo_trial_76 mc ms Post K_36 a0 y_j76 s_j76 d_j76 e_j76 x1j76 x2j76 x3j76 x4j76 x5j76 → va_P D CL (ws g ad y_j76 s_j76) H → va_D A (ws g ad y_j76 s_j76) → va_S A s.heap H locs → ∀ ls, lv_has ls 7 [(0, .ref (ad a0)), (1, .int x1j76), (2, .int x2j76), (3, .int x3j76), (4, .int x4j76), (5, .int x5j76)] → W p l e (ra_Mo_trial mc ms) s m args below meth c H locs d_j76 e_j76 Q (F0 m 76 ls []) := by
                  intro y_j76 s_j76 d_j76 e_j76 x1j76 x2j76 x3j76 x4j76 x5j76 H locs h hP hD hS ls hl
                  unfold wja_Mo_trial_76 at h
                  obtain ⟨hd, h⟩ := h
                  refine lv_aload_n G.1 G.2.1 d_Mo_trial_76 rfl (lv_at hl 0 rfl) ?_
                  refine lv_aload_n G.1 G.2.1 d_Mo_trial_77 rfl (lv_at hl 0 rfl) ?_
                  refine ugf (v := .ref (yP y_j76 a0 84)) G hP h_a0 iMo rfl 84 (by decide) rfl q3148 rfl rfl d_Mo_trial_78 ?_
                  refine lv_iload G.1 G.2.1 d_Mo_trial_81 (lv_at hl 4 rfl) ?_
                  refine lv_iload G.1 G.2.1 d_Mo_trial_83 (lv_at hl 5 rfl) ?_
                  obtain ⟨mc_44, ms_45, hr_46, h⟩ := h
                  refine uaVi (As := [.ref (yP y_j76 a0 84), .int x4j76, .int x5j76]) (rest := []) G hP hD hS (ca_Mo_cutLine l D g ad mc_44 ms_45 y_j76 _ s_j76 a0 a0 84 x4j76 x5j76 H.size (us H) h_a0 ⟨(kdp h_a0 rfl), (typ h_a0 rfl)⟩ h) w9_Mo_cutLine q3494 ⟨Nat.le_of_ble_eq_true rfl, Nat.le_of_ble_eq_true rfl⟩ rfl rfl h_a0 (q := (RMo, TMo, 131)) rfl rfl hl.1 rfl (Nat.le_of_ble_eq_true rfl) rfl hr_46 d_Mo_trial_85 (fun r_39 y_41 s_40 d_42 e_43 H locs h hP hD hS => ?_)
                  obtain ⟨hd, h⟩ := h
                  have J_157 : ∀ (y_j157 : Ly) (s_j157 : St) (d_j157 e_j157 : Nat) (x1j157 : Int32) (x2j157 : Int32) (x3j157 : Int32) (x5j157 : Int32) (H : Heap) (locs : List Loc), wja_Mo_trial_157 mc ms Post K_36 a0 y_j157 s_j157 d_j157 e_j157 x1j157 x2j157 x3j157 x5j157 → va_P D CL (ws g ad y_j157 s_j157) H → va_D A (ws g ad y_j157 s_j157) → va_S A s.heap H locs → ∀ ls, lv_has ls 7 [(0, .ref (ad a0)), (1, .int x1j157), (2, .int x2j157), (3, .int x3j157), (5, .int x5j157)] → W p l e (ra_Mo_trial mc ms) s m args below meth c H locs d_j157 e_j157 Q (F0 m 157 ls []) := by
                    intro y_j157 s_j157 d_j157 e_j157 x1j157 x2j157 x3j157 x5j157 H locs h hP hD hS ls hl
                    unfold wja_Mo_trial_157 at h
                    obtain ⟨hd, h⟩ := h
                    refine lv_iload G.1 G.2.1 d_Mo_trial_157 (lv_at hl 4 rfl) ?_
                    refine lv_iconst (v := 1) G.1 G.2.1 d_Mo_trial_159 (by decide) ?_
                    refine lv_iadd G.1 G.2.1 d_Mo_trial_160 ?_
                    refine lv_istore (lv' := [(4, .int (x5j157 + 1)), (0, .ref (ad a0)), (1, .int x1j157), (2, .int x2j157), (3, .int x3j157), (5, .int x5j157)]) G.1 G.2.1 d_Mo_trial_161 hl (by decide) rfl (fun ls hl => ?_)
                    refine lv_goto (tgt := 36) G.1 G.2.1 d_Mo_trial_163 (by decide) ?_
                    have h := hK_36 y_j157 s_j157 d_j157 e_j157 x1j157 x2j157 x3j157 (x5j157 + 1) h
                    exact ih_36 y_j157 s_j157 d_j157 e_j157 x1j157 x2j157 x3j157 (x5j157 + 1) (Nat.lt_of_lt_of_le h.2 (Nat.le_of_lt_succ hμ_36)) h.1 H locs hP hD hS ls (lv_sub hl [1, 2, 3, 4, 0] rfl)
                  refine lv_if_eq (tgt := 157) G.1 G.2.1 d_Mo_trial_88 (by decide) (fun c88 => ?_) (fun c88 => ?_)
                  · skip
                    have h := h.1 c88
                    exact J_157 y_41 s_40 (d_j76 + d_42) (e_j76 + e_43) x1j76 x2j76 x3j76 x5j76 H locs h hP hD hS ls (lv_sub hl [0, 1, 2, 3, 5] rfl)
                  · skip
                    have h := h.2 c88
                    refine lv_iinc (v := x1j76 + 1) (lv' := [(1, .int (x1j76 + 1)), (0, .ref (ad a0)), (2, .int x2j76), (3, .int x3j76), (4, .int x4j76), (5, .int x5j76)]) G.1 G.2.1 d_Mo_trial_91 hl (k := 1) rfl rfl (by decide) rfl (fun ls hl => ?_)
                    refine lv_iload G.1 G.2.1 d_Mo_trial_94 (lv_at hl 4 rfl) ?_
                    refine lv_istore_n (lv' := [(2, .int x4j76), (1, .int (x1j76 + 1)), (0, .ref (ad a0)), (3, .int x3j76), (4, .int x4j76), (5, .int x5j76)]) G.1 G.2.1 d_Mo_trial_96 rfl hl (by decide) rfl (fun ls hl => ?_)
                    refine lv_iload G.1 G.2.1 d_Mo_trial_97 (lv_at hl 5 rfl) ?_
                    refine W.eq (g2 := F0 m 99 ls [.int x5j76]) rfl ?_
                    refine lv_istore_n (lv' := [(3, .int x5j76), (2, .int x4j76), (1, .int (x1j76 + 1)), (0, .ref (ad a0)), (4, .int x4j76), (5, .int x5j76)]) G.1 G.2.1 d_Mo_trial_99 rfl hl (by decide) rfl (fun ls hl => ?_)
                    refine lv_aload_n G.1 G.2.1 d_Mo_trial_100 rfl (lv_at hl 3 rfl) ?_
                    refine ugf (v := .ref (yP y_41 a0 84)) G hP h_a0 iMo rfl 84 (by decide) rfl q3148 rfl rfl d_Mo_trial_101 ?_
                    refine lv_iload G.1 G.2.1 d_Mo_trial_104 (lv_at hl 4 rfl) ?_
                    refine lv_aload_n G.1 G.2.1 d_Mo_trial_106 rfl (lv_at hl 3 rfl) ?_
                    refine ugf (v := .ref (yP y_41 a0 122)) G hP h_a0 iMo rfl 122 (by decide) rfl q3186 rfl rfl d_Mo_trial_107 ?_
                    refine lv_aload_n G.1 G.2.1 d_Mo_trial_110 rfl (lv_at hl 3 rfl) ?_
                    refine ugf (v := .int (sV s_40 a0 123)) G hP h_a0 iMo rfl 123 (by decide) rfl q3187 rfl rfl d_Mo_trial_111 ?_
                    refine lv_iload G.1 G.2.1 d_Mo_trial_114 (lv_at hl 5 rfl) ?_
                    refine lv_iload G.1 G.2.1 d_Mo_trial_116 (lv_at hl 4 rfl) ?_
                    refine lv_isub G.1 G.2.1 d_Mo_trial_118 ?_
                    refine ucpy G hP hD hS (kdp h_a0 rfl) (typ h_a0 rfl) (kdp h_a0 rfl) (typ h_a0 rfl) rfl rfl h hl.1 q2595 q488 q487 q338 (Nat.le_of_ble_eq_true rfl) (Nat.le_of_ble_eq_true rfl) d_Mo_trial_119 (fun s_47 H locs h hP hD hS => ?_)
                    refine W.eq (g2 := F0 m 122 ls []) rfl ?_
                    refine lv_aload_n G.1 G.2.1 d_Mo_trial_122 rfl (lv_at hl 3 rfl) ?_
                    refine lv_dup G.1 G.2.1 d_Mo_trial_123 rfl ?_
                    refine ugf (v := .int (sV s_47 a0 123)) G hP h_a0 iMo rfl 123 (by decide) rfl q3187 rfl rfl d_Mo_trial_124 ?_
                    refine lv_iload G.1 G.2.1 d_Mo_trial_127 (lv_at hl 5 rfl) ?_
                    refine lv_iload G.1 G.2.1 d_Mo_trial_129 (lv_at hl 4 rfl) ?_
                    refine lv_isub G.1 G.2.1 d_Mo_trial_131 ?_
                    refine lv_iadd G.1 G.2.1 d_Mo_trial_132 ?_
                    refine upf G hP hD hS h 123 putV h_a0 iMo tMo tMo_ok nMo rfl (by decide) rfl q3187 rfl rfl fV rfl rfl d_Mo_trial_133 (fun s_48 H locs h hP hD hS => ?_)
                    refine lv_aload_n G.1 G.2.1 d_Mo_trial_136 rfl (lv_at hl 3 rfl) ?_
                    refine ugf (v := .ref (yP y_41 a0 122)) G hP h_a0 iMo rfl 122 (by decide) rfl q3186 rfl rfl d_Mo_trial_137 ?_
                    refine lv_aload_n G.1 G.2.1 d_Mo_trial_140 rfl (lv_at hl 3 rfl) ?_
                    refine ugf (v := .int (sV s_48 a0 123)) G hP h_a0 iMo rfl 123 (by decide) rfl q3187 rfl rfl d_Mo_trial_141 ?_
                    refine W.eq (g2 := F0 m 144 ls [.int (sV s_48 a0 123), .ref (yP y_41 a0 122)]) rfl ?_
                    refine lv_bipush (v := 10) G.1 G.2.1 d_Mo_trial_144 (by decide) ?_
                    refine ubast G hP hD hS (kdp h_a0 rfl) (typ h_a0 rfl) h d_Mo_trial_146 (fun s_49 H locs h hP hD hS => ?_)
                    refine lv_aload_n G.1 G.2.1 d_Mo_trial_147 rfl (lv_at hl 3 rfl) ?_
                    refine lv_dup G.1 G.2.1 d_Mo_trial_148 rfl ?_
                    refine ugf (v := .int (sV s_49 a0 123)) G hP h_a0 iMo rfl 123 (by decide) rfl q3187 rfl rfl d_Mo_trial_149 ?_
                    refine lv_iconst (v := 1) G.1 G.2.1 d_Mo_trial_152 (by decide) ?_
                    refine lv_iadd G.1 G.2.1 d_Mo_trial_153 ?_
                    refine upf G hP hD hS h 123 putV h_a0 iMo tMo tMo_ok nMo rfl (by decide) rfl q3187 rfl rfl fV rfl rfl d_Mo_trial_154 (fun s_50 H locs h hP hD hS => ?_)
                    exact J_157 y_41 s_50 (d_j76 + d_42) (e_j76 + e_43) (x1j76 + 1) x4j76 x5j76 x5j76 H locs h hP hD hS ls (lv_sub hl [3, 2, 1, 0, 5] rfl)
                refine lv_icmp_ge (tgt := 76) G.1 G.2.1 d_Mo_trial_55 (by decide) (fun c55 => ?_) (fun c55 => ?_)
                · skip
                  have h := h.1 c55
                  exact J_76 y_h49 s_h49 d_h49 e_h49 x1h49 x2h49 x3h49 x4h49 x5h49 H locs h hP hD hS ls (lv_sub hl [0, 1, 2, 3, 4, 5] rfl)
                · skip
                  have h := h.2 c55
                  refine lv_aload_n G.1 G.2.1 d_Mo_trial_58 rfl (lv_at hl 0 rfl) ?_
                  refine ugf (v := .ref (yP y_h49 a0 84)) G hP h_a0 iMo rfl 84 (by decide) rfl q3148 rfl rfl d_Mo_trial_59 ?_
                  refine lv_iload G.1 G.2.1 d_Mo_trial_62 (lv_at hl 5 rfl) ?_
                  refine ubald G hP (kdp h_a0 rfl) (typ h_a0 rfl) h d_Mo_trial_64 (fun x_51 h => ?_)
                  refine lv_bipush (v := 10) G.1 G.2.1 d_Mo_trial_65 (by decide) ?_
                  refine lv_icmp_eq (tgt := 76) G.1 G.2.1 d_Mo_trial_67 (by decide) (fun c67 => ?_) (fun c67 => ?_)
                  · skip
                    have h := h.1 c67
                    exact J_76 y_h49 s_h49 d_h49 e_h49 x1h49 x2h49 x3h49 x4h49 x5h49 H locs h hP hD hS ls (lv_sub hl [0, 1, 2, 3, 4, 5] rfl)
                  · skip
                    have h := h.2 c67
                    refine lv_iinc (v := x5h49 + 1) (lv' := [(5, .int (x5h49 + 1)), (0, .ref (ad a0)), (1, .int x1h49), (2, .int x2h49), (3, .int x3h49), (4, .int x4h49)]) G.1 G.2.1 d_Mo_trial_70 hl (k := 5) rfl rfl (by decide) rfl (fun ls hl => ?_)
                    refine W.eq (g2 := F0 m 73 ls []) rfl ?_
                    refine lv_goto (tgt := 49) G.1 G.2.1 d_Mo_trial_73 (by decide) ?_
                    have h := hK_49 y_h49 s_h49 d_h49 e_h49 x1h49 x2h49 x3h49 x4h49 (x5h49 + 1) h
                    exact ih_49 y_h49 s_h49 d_h49 e_h49 x1h49 x2h49 x3h49 x4h49 (x5h49 + 1) (Nat.lt_of_lt_of_le h.2 (Nat.le_of_lt_succ hμ_49)) h.1 H locs hP hD hS ls (lv_sub hl [1, 2, 3, 4, 5, 0] rfl)
            exact L_49 _ y_h36 s_h36 d_h36 e_h36 x1h36 x2h36 x3h36 x4h36 x4h36 (Nat.lt_succ_self _) hI_49 H locs hP hD hS ls (lv_sub hl [1, 2, 3, 4, 5, 0] rfl)
      exact L_36 _ y s_1 0 0 0 0 0 0 (Nat.lt_succ_self _) hI_36 H locs hP hD hS ls (lv_sub hl [4, 3, 2, 1, 0] rfl)
    · skip
      have h := h.2 c16
      exact J_19 y σ 0 0 H locs h hP hD hS ls (lv_sub hl [] rfl)
